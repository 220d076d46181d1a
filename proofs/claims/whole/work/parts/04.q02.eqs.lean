theorem hc61 : ab_code 61 = cX9_readLine := rfl
theorem hn61 : ab_nL 61 = 1 := rfl
theorem hk61 : ab_ky 61 = 9 := rfl
theorem hr61 : ab_ret 61 = some .boolean := rfl
section Q61
variable {scr : Option (List Int32)} {d : Nat} {M : ab_M} {st : List Value} {l0 : Option Value}
theorem q61_0 {xr : Nat} : ab_res scr 61 d M 0 [some (.ref xr)] (st) = ab_res scr 61 d M 1 [some (.ref xr)] (.ref xr :: st) := ab_o_aload_n (ab_dc hc61 dX9_readLine_0) rfl
theorem q61_1 {v0 : Nat} : ab_res scr 61 d M 1 [l0] (.ref v0 :: st) = (ab_gF ab_L0 M v0 9 1).bind fun v => ab_res scr 61 d M 4 [l0] (v :: st) := ab_o_getfield (ab_dc hc61 dX9_readLine_1) hk61 lk_fl_9_29
theorem q61_4 : ab_res scr 61 d M 4 [l0] (st) = ab_res scr 61 d M 6 [l0] (.ref 1000 :: st) := ab_o_ldcS (ab_dc hc61 dX9_readLine_4) hk61 lk_kn_9_51 rfl
theorem q61_6 {v0 : Nat} {v1 : Nat} (hb : (ab_rc ab_L0 v1 = some 10) = True) : ab_res scr 61 8 M 6 [l0] ([.ref v0, .ref v1]) = (ab_ms scr 77 [.ref v1, .ref v0] M).bind fun o => ab_res scr 61 8 o.1 9 [l0] (ab_pr o.2 []) := ab_o_virtual (ab_dc hc61 dX9_readLine_6) hk61 lk_ca_9_53 hm77 (Nat.le_of_ble_eq_true rfl) rfl rfl rfl (of_eq_true hb) rfl rfl
theorem q61_9 {v0 : Int32} : ab_res scr 61 d M 9 [l0] (.int v0 :: st) = if v0 = 0 then ab_res scr 61 d M 41 [l0] (st) else ab_res scr 61 d M 12 [l0] (st) := ab_o_br2 (off := 32) (ab_dc hc61 dX9_readLine_9) (by decide) rfl rfl
theorem q61_12 {xr : Nat} : ab_res scr 61 d M 12 [some (.ref xr)] (st) = ab_res scr 61 d M 13 [some (.ref xr)] (.ref xr :: st) := ab_o_aload_n (ab_dc hc61 dX9_readLine_12) rfl
theorem q61_13 {v0 : Nat} (hb : (ab_rc ab_L0 v0 = some 9) = True) : ab_res scr 61 8 M 13 [l0] ([.ref v0]) = (ab_ms scr 62 [.ref v0] M).bind fun o => ab_res scr 61 8 o.1 16 [l0] (ab_pr o.2 []) := ab_o_virtual (ab_dc hc61 dX9_readLine_13) hk61 lk_ca_9_57 hm62 (Nat.le_of_ble_eq_true rfl) rfl rfl rfl (of_eq_true hb) rfl rfl
theorem q61_16 {v0 : Int32} : ab_res scr 61 d M 16 [l0] (.int v0 :: st) = if v0 = 0 then ab_res scr 61 d M 39 [l0] (st) else ab_res scr 61 d M 19 [l0] (st) := ab_o_br2 (off := 23) (ab_dc hc61 dX9_readLine_16) (by decide) rfl rfl
theorem q61_19 {xr : Nat} : ab_res scr 61 d M 19 [some (.ref xr)] (st) = ab_res scr 61 d M 20 [some (.ref xr)] (.ref xr :: st) := ab_o_aload_n (ab_dc hc61 dX9_readLine_19) rfl
theorem q61_20 {xr : Nat} : ab_res scr 61 d M 20 [some (.ref xr)] (st) = ab_res scr 61 d M 21 [some (.ref xr)] (.ref xr :: st) := ab_o_aload_n (ab_dc hc61 dX9_readLine_20) rfl
theorem q61_21 {v0 : Nat} : ab_res scr 61 d M 21 [l0] (.ref v0 :: st) = (ab_gF ab_L0 M v0 9 0).bind fun v => ab_res scr 61 d M 24 [l0] (v :: st) := ab_o_getfield (ab_dc hc61 dX9_readLine_21) hk61 lk_fl_9_12
theorem q61_24 {v0 : Nat} : ab_res scr 61 d M 24 [l0] (.ref v0 :: st) = (ab_gF ab_L0 M v0 4 3).bind fun v => ab_res scr 61 d M 27 [l0] (v :: st) := ab_o_getfield (ab_dc hc61 dX9_readLine_24) hk61 lk_fl_9_60
theorem q61_27 : ab_res scr 61 d M 27 [l0] (st) = ab_res scr 61 d M 28 [l0] (.int 1 :: st) := (ab_o_iconst (ab_dc hc61 dX9_readLine_27)).trans (by rw [ki_iconst_1])
theorem q61_28 {v0 : Int32} {v1 : Int32} : ab_res scr 61 d M 28 [l0] (.int v0 :: .int v1 :: st) = ab_res scr 61 d M 29 [l0] (.int (v1 - v0) :: st) := ab_xg (ab_dc hc61 dX9_readLine_28) rfl rfl
theorem q61_29 {v0 : Int32} {v1 : Nat} (hb : (ab_rc ab_L0 v1 = some 9) = True) : ab_res scr 61 8 M 29 [l0] ([.int v0, .ref v1]) = (ab_ms scr 63 [.ref v1, .int v0] M).bind fun o => ab_res scr 61 8 o.1 32 [l0] (ab_pr o.2 []) := ab_o_virtual (ab_dc hc61 dX9_readLine_29) hk61 lk_ca_9_63 hm63 (Nat.le_of_ble_eq_true rfl) rfl rfl rfl (of_eq_true hb) rfl rfl
theorem q61_32 {v0 : Int32} : ab_res scr 61 d M 32 [l0] (.int v0 :: st) = if v0 = 0 then ab_res scr 61 d M 39 [l0] (st) else ab_res scr 61 d M 35 [l0] (st) := ab_o_br2 (off := 7) (ab_dc hc61 dX9_readLine_32) (by decide) rfl rfl
theorem q61_35 : ab_res scr 61 d M 35 [l0] (st) = ab_res scr 61 d M 36 [l0] (.int 1 :: st) := (ab_o_iconst (ab_dc hc61 dX9_readLine_35)).trans (by rw [ki_iconst_1])
theorem q61_36 : ab_res scr 61 d M 36 [l0] (st) = ab_res scr 61 d M 40 [l0] (st) := ab_o_goto (ab_dc hc61 dX9_readLine_36) (by decide)
theorem q61_39 : ab_res scr 61 d M 39 [l0] (st) = ab_res scr 61 d M 40 [l0] (.int 0 :: st) := (ab_o_iconst (ab_dc hc61 dX9_readLine_39)).trans (by rw [ki_iconst_0])
theorem q61_40 {v0 : Int32} (hv : (narrow .boolean (.int v0) = .int v0) = True) : ab_res scr 61 d M 40 [l0] ([.int v0]) = some (M, some (.int v0)) := ab_o_ireturn (ab_dc hc61 dX9_readLine_40) hr61 (of_eq_true hv)
theorem q61_41 {xr : Nat} : ab_res scr 61 d M 41 [some (.ref xr)] (st) = ab_res scr 61 d M 42 [some (.ref xr)] (.ref xr :: st) := ab_o_aload_n (ab_dc hc61 dX9_readLine_41) rfl
theorem q61_42 {v0 : Nat} : ab_res scr 61 d M 42 [l0] (.ref v0 :: st) = (ab_gF ab_L0 M v0 9 1).bind fun v => ab_res scr 61 d M 45 [l0] (v :: st) := ab_o_getfield (ab_dc hc61 dX9_readLine_42) hk61 lk_fl_9_29
theorem q61_45 : ab_res scr 61 d M 45 [l0] (st) = ab_res scr 61 d M 47 [l0] (.ref 1001 :: st) := ab_o_ldcS (ab_dc hc61 dX9_readLine_45) hk61 lk_kn_9_67 rfl
theorem q61_47 {v0 : Nat} {v1 : Nat} (hb : (ab_rc ab_L0 v1 = some 10) = True) : ab_res scr 61 8 M 47 [l0] ([.ref v0, .ref v1]) = (ab_ms scr 77 [.ref v1, .ref v0] M).bind fun o => ab_res scr 61 8 o.1 50 [l0] (ab_pr o.2 []) := ab_o_virtual (ab_dc hc61 dX9_readLine_47) hk61 lk_ca_9_53 hm77 (Nat.le_of_ble_eq_true rfl) rfl rfl rfl (of_eq_true hb) rfl rfl
theorem q61_50 {v0 : Int32} : ab_res scr 61 d M 50 [l0] (.int v0 :: st) = if v0 = 0 then ab_res scr 61 d M 58 [l0] (st) else ab_res scr 61 d M 53 [l0] (st) := ab_o_br2 (off := 8) (ab_dc hc61 dX9_readLine_50) (by decide) rfl rfl
theorem q61_53 {xr : Nat} : ab_res scr 61 d M 53 [some (.ref xr)] (st) = ab_res scr 61 d M 54 [some (.ref xr)] (.ref xr :: st) := ab_o_aload_n (ab_dc hc61 dX9_readLine_53) rfl
theorem q61_54 {v0 : Nat} (hb : (ab_rc ab_L0 v0 = some 9) = True) : ab_res scr 61 8 M 54 [l0] ([.ref v0]) = (ab_ms scr 65 [.ref v0] M).bind fun o => ab_res scr 61 8 o.1 57 [l0] (ab_pr o.2 []) := ab_o_virtual (ab_dc hc61 dX9_readLine_54) hk61 lk_ca_9_69 hm65 (Nat.le_of_ble_eq_true rfl) rfl rfl rfl (of_eq_true hb) rfl rfl
theorem q61_57 {v0 : Int32} (hv : (narrow .boolean (.int v0) = .int v0) = True) : ab_res scr 61 d M 57 [l0] ([.int v0]) = some (M, some (.int v0)) := ab_o_ireturn (ab_dc hc61 dX9_readLine_57) hr61 (of_eq_true hv)
theorem q61_58 {xr : Nat} : ab_res scr 61 d M 58 [some (.ref xr)] (st) = ab_res scr 61 d M 59 [some (.ref xr)] (.ref xr :: st) := ab_o_aload_n (ab_dc hc61 dX9_readLine_58) rfl
theorem q61_59 {v0 : Nat} (hb : (ab_rc ab_L0 v0 = some 9) = True) : ab_res scr 61 8 M 59 [l0] ([.ref v0]) = (ab_ms scr 67 [.ref v0] M).bind fun o => ab_res scr 61 8 o.1 62 [l0] (ab_pr o.2 []) := ab_o_virtual (ab_dc hc61 dX9_readLine_59) hk61 lk_ca_9_72 hm67 (Nat.le_of_ble_eq_true rfl) rfl rfl rfl (of_eq_true hb) rfl rfl
theorem q61_62 {v0 : Int32} (hv : (narrow .boolean (.int v0) = .int v0) = True) : ab_res scr 61 d M 62 [l0] ([.int v0]) = some (M, some (.int v0)) := ab_o_ireturn (ab_dc hc61 dX9_readLine_62) hr61 (of_eq_true hv)
end Q61
theorem hc62 : ab_code 62 = cX9_readOne := rfl
theorem hn62 : ab_nL 62 = 4 := rfl
theorem hk62 : ab_ky 62 = 9 := rfl
theorem hr62 : ab_ret 62 = some .boolean := rfl
section Q62
variable {scr : Option (List Int32)} {d : Nat} {M : ab_M} {st : List Value} {l0 l1 l2 l3 : Option Value}
theorem q62_0 {xr : Nat} : ab_res scr 62 d M 0 [some (.ref xr), l1, l2, l3] (st) = ab_res scr 62 d M 1 [some (.ref xr), l1, l2, l3] (.ref xr :: st) := ab_o_aload_n (ab_dc hc62 dX9_readOne_0) rfl
theorem q62_1 {v0 : Nat} : ab_res scr 62 d M 1 [l0, l1, l2, l3] (.ref v0 :: st) = (ab_gF ab_L0 M v0 9 0).bind fun v => ab_res scr 62 d M 4 [l0, l1, l2, l3] (v :: st) := ab_o_getfield (ab_dc hc62 dX9_readOne_1) hk62 lk_fl_9_12
theorem q62_4 {v0 : Nat} : ab_res scr 62 d M 4 [l0, l1, l2, l3] (.ref v0 :: st) = (ab_gF ab_L0 M v0 4 3).bind fun v => ab_res scr 62 d M 7 [l0, l1, l2, l3] (v :: st) := ab_o_getfield (ab_dc hc62 dX9_readOne_4) hk62 lk_fl_9_60
theorem q62_7 : ab_res scr 62 d M 7 [l0, l1, l2, l3] (st) = ab_res scr 62 d M 9 [l0, l1, l2, l3] (.int 8 :: st) := (ab_o_bipush (ab_dc hc62 dX9_readOne_7)).trans (by rw [ki_bipush_8])
theorem q62_9 {v0 : Int32} {v1 : Int32} : ab_res scr 62 d M 9 [l0, l1, l2, l3] (.int v0 :: .int v1 :: st) = if v1 < v0 then ab_res scr 62 d M 18 [l0, l1, l2, l3] (st) else ab_res scr 62 d M 12 [l0, l1, l2, l3] (st) := ab_o_br2 (off := 9) (ab_dc hc62 dX9_readOne_9) (by decide) rfl rfl
theorem q62_12 {xr : Nat} : ab_res scr 62 d M 12 [some (.ref xr), l1, l2, l3] (st) = ab_res scr 62 d M 13 [some (.ref xr), l1, l2, l3] (.ref xr :: st) := ab_o_aload_n (ab_dc hc62 dX9_readOne_12) rfl
theorem q62_13 : ab_res scr 62 d M 13 [l0, l1, l2, l3] (st) = ab_res scr 62 d M 14 [l0, l1, l2, l3] (.int 5 :: st) := (ab_o_iconst (ab_dc hc62 dX9_readOne_13)).trans (by rw [ki_iconst_5])
theorem q62_14 {v0 : Int32} {v1 : Nat} (hb : (ab_rc ab_L0 v1 = some 9) = True) : ab_res scr 62 5 M 14 [l0, l1, l2, l3] ([.int v0, .ref v1]) = (ab_ms scr 68 [.ref v1, .int v0] M).bind fun o => ab_res scr 62 5 o.1 17 [l0, l1, l2, l3] (ab_pr o.2 []) := ab_o_virtual (ab_dc hc62 dX9_readOne_14) hk62 lk_ca_9_75 hm68 (Nat.le_of_ble_eq_true rfl) rfl rfl rfl (of_eq_true hb) rfl rfl
theorem q62_17 {v0 : Int32} (hv : (narrow .boolean (.int v0) = .int v0) = True) : ab_res scr 62 d M 17 [l0, l1, l2, l3] ([.int v0]) = some (M, some (.int v0)) := ab_o_ireturn (ab_dc hc62 dX9_readOne_17) hr62 (of_eq_true hv)
theorem q62_18 {xr : Nat} : ab_res scr 62 d M 18 [some (.ref xr), l1, l2, l3] (st) = ab_res scr 62 d M 19 [some (.ref xr), l1, l2, l3] (.ref xr :: st) := ab_o_aload_n (ab_dc hc62 dX9_readOne_18) rfl
theorem q62_19 {v0 : Nat} : ab_res scr 62 d M 19 [l0, l1, l2, l3] (.ref v0 :: st) = (ab_gF ab_L0 M v0 9 0).bind fun v => ab_res scr 62 d M 22 [l0, l1, l2, l3] (v :: st) := ab_o_getfield (ab_dc hc62 dX9_readOne_19) hk62 lk_fl_9_12
theorem q62_22 {v0 : Nat} (hb : (ab_rc ab_L0 v0 = some 4) = True) : ab_res scr 62 5 M 22 [l0, l1, l2, l3] ([.ref v0]) = (ab_ms scr 40 [.ref v0] M).bind fun o => ab_res scr 62 5 o.1 25 [l0, l1, l2, l3] (ab_pr o.2 []) := ab_o_virtual (ab_dc hc62 dX9_readOne_22) hk62 lk_ca_9_78 hm40 (Nat.le_of_ble_eq_true rfl) rfl rfl rfl (of_eq_true hb) rfl rfl
theorem q62_25 {v0 : Int32} : ab_res scr 62 d M 25 [l0, l1, l2, l3] (.int v0 :: st) = ab_res scr 62 d M 26 [ab_nl l0, some (.int v0), l2, l3] (st) := (ab_o_st1 (k := 1) (ab_dc hc62 dX9_readOne_25) (Or.inr (Or.inr (Or.inl ⟨1, rfl, rfl, rfl, ⟨_, rfl⟩⟩))) hn62 (by decide)).trans (ab_kl1 [] _ l0 rfl rfl)
theorem q62_26 : ab_res scr 62 d M 26 [l0, l1, l2, l3] (st) = ab_res scr 62 d M 27 [l0, l1, l2, l3] (.int 0 :: st) := (ab_o_iconst (ab_dc hc62 dX9_readOne_26)).trans (by rw [ki_iconst_0])
theorem q62_27 {v0 : Int32} : ab_res scr 62 d M 27 [l0, l1, l2, l3] (.int v0 :: st) = ab_res scr 62 d M 28 [l0, ab_nl l1, some (.int v0), l3] (st) := (ab_o_st1 (k := 2) (ab_dc hc62 dX9_readOne_27) (Or.inr (Or.inr (Or.inl ⟨2, rfl, rfl, rfl, ⟨_, rfl⟩⟩))) hn62 (by decide)).trans (ab_kl1 [l0] _ l1 rfl rfl)
theorem q62_28 {x : Int32} : ab_res scr 62 d M 28 [l0, l1, some (.int x), l3] (st) = ab_res scr 62 d M 29 [l0, l1, some (.int x), l3] (.int x :: st) := ab_o_iload_n (ab_dc hc62 dX9_readOne_28) rfl
theorem q62_29 : ab_res scr 62 d M 29 [l0, l1, l2, l3] (st) = ab_res scr 62 d M 30 [l0, l1, l2, l3] (.int 3 :: st) := (ab_o_iconst (ab_dc hc62 dX9_readOne_29)).trans (by rw [ki_iconst_3])
theorem q62_30 {v0 : Int32} {v1 : Int32} : ab_res scr 62 d M 30 [l0, l1, l2, l3] (.int v0 :: .int v1 :: st) = if v0 < v1 then ab_res scr 62 d M 99 [l0, l1, l2, l3] (st) else ab_res scr 62 d M 33 [l0, l1, l2, l3] (st) := ab_o_br2 (off := 69) (ab_dc hc62 dX9_readOne_30) (by decide) rfl rfl
theorem q62_33 {x : Int32} : ab_res scr 62 d M 33 [l0, l1, some (.int x), l3] (st) = ab_res scr 62 d M 34 [l0, l1, some (.int x), l3] (.int x :: st) := ab_o_iload_n (ab_dc hc62 dX9_readOne_33) rfl
theorem q62_34 : ab_res scr 62 d M 34 [l0, l1, l2, l3] (st) = ab_res scr 62 d M 35 [l0, l1, l2, l3] (.int 1 :: st) := (ab_o_iconst (ab_dc hc62 dX9_readOne_34)).trans (by rw [ki_iconst_1])
theorem q62_35 {v0 : Int32} {v1 : Int32} : ab_res scr 62 d M 35 [l0, l1, l2, l3] (.int v0 :: .int v1 :: st) = if ¬ v1 = v0 then ab_res scr 62 d M 54 [l0, l1, l2, l3] (st) else ab_res scr 62 d M 38 [l0, l1, l2, l3] (st) := ab_o_br2 (off := 19) (ab_dc hc62 dX9_readOne_35) (by decide) rfl rfl
theorem q62_38 {xr : Nat} : ab_res scr 62 d M 38 [some (.ref xr), l1, l2, l3] (st) = ab_res scr 62 d M 39 [some (.ref xr), l1, l2, l3] (.ref xr :: st) := ab_o_aload_n (ab_dc hc62 dX9_readOne_38) rfl
theorem q62_39 {v0 : Nat} : ab_res scr 62 d M 39 [l0, l1, l2, l3] (.ref v0 :: st) = (ab_gF ab_L0 M v0 9 0).bind fun v => ab_res scr 62 d M 42 [l0, l1, l2, l3] (v :: st) := ab_o_getfield (ab_dc hc62 dX9_readOne_39) hk62 lk_fl_9_12
theorem q62_42 {v0 : Nat} : ab_res scr 62 d M 42 [l0, l1, l2, l3] (.ref v0 :: st) = (ab_gF ab_L0 M v0 4 0).bind fun v => ab_res scr 62 d M 45 [l0, l1, l2, l3] (v :: st) := ab_o_getfield (ab_dc hc62 dX9_readOne_42) hk62 lk_fl_9_82
theorem q62_45 : ab_res scr 62 d M 45 [l0, l1, l2, l3] (st) = ab_res scr 62 d M 46 [l0, l1, l2, l3] (.int 0 :: st) := (ab_o_iconst (ab_dc hc62 dX9_readOne_45)).trans (by rw [ki_iconst_0])
theorem q62_46 {v0 : Int32} {v1 : Nat} : ab_res scr 62 d M 46 [l0, l1, l2, l3] (.int v0 :: .ref v1 :: st) = (ab_qe v1 v0).bind fun v => ab_res scr 62 d M 47 [l0, l1, l2, l3] (v :: st) := ab_o_aaload (ab_dc hc62 dX9_readOne_46)
theorem q62_47 {x : Int32} : ab_res scr 62 d M 47 [l0, some (.int x), l2, l3] (st) = ab_res scr 62 d M 48 [l0, some (.int x), l2, l3] (.int x :: st) := ab_o_iload_n (ab_dc hc62 dX9_readOne_47) rfl
theorem q62_48 {v0 : Int32} {v1 : Nat} : ab_res scr 62 d M 48 [l0, l1, l2, l3] (.int v0 :: .ref v1 :: st) = (ab_ald scr ab_L0 M v1 .int v0).bind fun v => ab_res scr 62 d M 49 [l0, l1, l2, l3] (.int v :: st) := ab_o_iaload (ab_dc hc62 dX9_readOne_48)
theorem q62_49 : ab_res scr 62 d M 49 [l0, l1, l2, l3] (st) = ab_res scr 62 d M 50 [l0, l1, l2, l3] (.int 1 :: st) := (ab_o_iconst (ab_dc hc62 dX9_readOne_49)).trans (by rw [ki_iconst_1])
theorem q62_50 {v0 : Int32} {v1 : Int32} : ab_res scr 62 d M 50 [l0, l1, l2, l3] (.int v0 :: .int v1 :: st) = ab_res scr 62 d M 51 [l0, l1, l2, l3] (.int (v1 + v0) :: st) := ab_xg (ab_dc hc62 dX9_readOne_50) rfl rfl
theorem q62_51 : ab_res scr 62 d M 51 [l0, l1, l2, l3] (st) = ab_res scr 62 d M 59 [l0, l1, l2, l3] (st) := ab_o_goto (ab_dc hc62 dX9_readOne_51) (by decide)
theorem q62_54 : ab_res scr 62 d M 54 [l0, l1, l2, l3] (st) = ab_res scr 62 d M 57 [l0, l1, l2, l3] (.ref 2000 :: st) := ab_o_getstatic (ab_dc hc62 dX9_readOne_54) hk62 lk_st_9_86
theorem q62_57 {x : Int32} : ab_res scr 62 d M 57 [l0, l1, some (.int x), l3] (st) = ab_res scr 62 d M 58 [l0, l1, some (.int x), l3] (.int x :: st) := ab_o_iload_n (ab_dc hc62 dX9_readOne_57) rfl
theorem q62_58 {v0 : Int32} {v1 : Nat} : ab_res scr 62 d M 58 [l0, l1, l2, l3] (.int v0 :: .ref v1 :: st) = (ab_ald scr ab_L0 M v1 .int v0).bind fun v => ab_res scr 62 d M 59 [l0, l1, l2, l3] (.int v :: st) := ab_o_iaload (ab_dc hc62 dX9_readOne_58)
theorem q62_59 {v0 : Int32} : ab_res scr 62 d M 59 [l0, l1, l2, l3] (.int v0 :: st) = ab_res scr 62 d M 60 [l0, l1, ab_nl l2, some (.int v0)] (st) := (ab_o_st1 (k := 3) (ab_dc hc62 dX9_readOne_59) (Or.inr (Or.inr (Or.inl ⟨3, rfl, rfl, rfl, ⟨_, rfl⟩⟩))) hn62 (by decide)).trans (ab_kl1 [l0, l1] _ l2 rfl rfl)
theorem q62_60 {xr : Nat} : ab_res scr 62 d M 60 [some (.ref xr), l1, l2, l3] (st) = ab_res scr 62 d M 61 [some (.ref xr), l1, l2, l3] (.ref xr :: st) := ab_o_aload_n (ab_dc hc62 dX9_readOne_60) rfl
theorem q62_61 {x : Int32} : ab_res scr 62 d M 61 [l0, l1, l2, some (.int x)] (st) = ab_res scr 62 d M 62 [l0, l1, l2, some (.int x)] (.int x :: st) := ab_o_iload_n (ab_dc hc62 dX9_readOne_61) rfl
theorem q62_62 : ab_res scr 62 d M 62 [l0, l1, l2, l3] (st) = ab_res scr 62 d M 65 [l0, l1, l2, l3] (.ref 2001 :: st) := ab_o_getstatic (ab_dc hc62 dX9_readOne_62) hk62 lk_st_9_90
theorem q62_65 {x : Int32} : ab_res scr 62 d M 65 [l0, l1, some (.int x), l3] (st) = ab_res scr 62 d M 66 [l0, l1, some (.int x), l3] (.int x :: st) := ab_o_iload_n (ab_dc hc62 dX9_readOne_65) rfl
theorem q62_66 {v0 : Int32} {v1 : Nat} : ab_res scr 62 d M 66 [l0, l1, l2, l3] (.int v0 :: .ref v1 :: st) = (ab_ald scr ab_L0 M v1 .int v0).bind fun v => ab_res scr 62 d M 67 [l0, l1, l2, l3] (.int v :: st) := ab_o_iaload (ab_dc hc62 dX9_readOne_66)
theorem q62_67 {v0 : Int32} {v1 : Int32} {v2 : Nat} (hb : (ab_rc ab_L0 v2 = some 9) = True) : ab_res scr 62 5 M 67 [l0, l1, l2, l3] ([.int v0, .int v1, .ref v2]) = (ab_ms scr 66 [.ref v2, .int v1, .int v0] M).bind fun o => ab_res scr 62 5 o.1 70 [l0, l1, l2, l3] (ab_pr o.2 []) := ab_o_virtual (ab_dc hc62 dX9_readOne_67) hk62 lk_ca_9_93 hm66 (Nat.le_of_ble_eq_true rfl) rfl rfl rfl (of_eq_true hb) rfl rfl
theorem q62_70 {v0 : Int32} : ab_res scr 62 d M 70 [l0, l1, l2, l3] (.int v0 :: st) = if ¬ v0 = 0 then ab_res scr 62 d M 75 [l0, l1, l2, l3] (st) else ab_res scr 62 d M 73 [l0, l1, l2, l3] (st) := ab_o_br2 (off := 5) (ab_dc hc62 dX9_readOne_70) (by decide) rfl rfl
theorem q62_73 : ab_res scr 62 d M 73 [l0, l1, l2, l3] (st) = ab_res scr 62 d M 74 [l0, l1, l2, l3] (.int 0 :: st) := (ab_o_iconst (ab_dc hc62 dX9_readOne_73)).trans (by rw [ki_iconst_0])
theorem q62_74 {v0 : Int32} (hv : (narrow .boolean (.int v0) = .int v0) = True) : ab_res scr 62 d M 74 [l0, l1, l2, l3] ([.int v0]) = some (M, some (.int v0)) := ab_o_ireturn (ab_dc hc62 dX9_readOne_74) hr62 (of_eq_true hv)
theorem q62_75 {xr : Nat} : ab_res scr 62 d M 75 [some (.ref xr), l1, l2, l3] (st) = ab_res scr 62 d M 76 [some (.ref xr), l1, l2, l3] (.ref xr :: st) := ab_o_aload_n (ab_dc hc62 dX9_readOne_75) rfl
theorem q62_76 {v0 : Nat} : ab_res scr 62 d M 76 [l0, l1, l2, l3] (.ref v0 :: st) = (ab_gF ab_L0 M v0 9 0).bind fun v => ab_res scr 62 d M 79 [l0, l1, l2, l3] (v :: st) := ab_o_getfield (ab_dc hc62 dX9_readOne_76) hk62 lk_fl_9_12
theorem q62_79 {v0 : Nat} : ab_res scr 62 d M 79 [l0, l1, l2, l3] (.ref v0 :: st) = (ab_gF ab_L0 M v0 4 0).bind fun v => ab_res scr 62 d M 82 [l0, l1, l2, l3] (v :: st) := ab_o_getfield (ab_dc hc62 dX9_readOne_79) hk62 lk_fl_9_82
theorem q62_82 {x : Int32} : ab_res scr 62 d M 82 [l0, l1, some (.int x), l3] (st) = ab_res scr 62 d M 83 [l0, l1, some (.int x), l3] (.int x :: st) := ab_o_iload_n (ab_dc hc62 dX9_readOne_82) rfl
theorem q62_83 {v0 : Int32} {v1 : Nat} : ab_res scr 62 d M 83 [l0, l1, l2, l3] (.int v0 :: .ref v1 :: st) = (ab_qe v1 v0).bind fun v => ab_res scr 62 d M 84 [l0, l1, l2, l3] (v :: st) := ab_o_aaload (ab_dc hc62 dX9_readOne_83)
theorem q62_84 {x : Int32} : ab_res scr 62 d M 84 [l0, some (.int x), l2, l3] (st) = ab_res scr 62 d M 85 [l0, some (.int x), l2, l3] (.int x :: st) := ab_o_iload_n (ab_dc hc62 dX9_readOne_84) rfl
theorem q62_85 {xr : Nat} : ab_res scr 62 d M 85 [some (.ref xr), l1, l2, l3] (st) = ab_res scr 62 d M 86 [some (.ref xr), l1, l2, l3] (.ref xr :: st) := ab_o_aload_n (ab_dc hc62 dX9_readOne_85) rfl
theorem q62_86 {v0 : Nat} : ab_res scr 62 d M 86 [l0, l1, l2, l3] (.ref v0 :: st) = (ab_gF ab_L0 M v0 9 1).bind fun v => ab_res scr 62 d M 89 [l0, l1, l2, l3] (v :: st) := ab_o_getfield (ab_dc hc62 dX9_readOne_86) hk62 lk_fl_9_29
theorem q62_89 {v0 : Nat} : ab_res scr 62 d M 89 [l0, l1, l2, l3] (.ref v0 :: st) = (ab_gF ab_L0 M v0 10 5).bind fun v => ab_res scr 62 d M 92 [l0, l1, l2, l3] (v :: st) := ab_o_getfield (ab_dc hc62 dX9_readOne_89) hk62 lk_fl_9_97
theorem q62_92 {v0 : Int32} {v1 : Int32} {v2 : Nat} : ab_res scr 62 d M 92 [l0, l1, l2, l3] (.int v0 :: .int v1 :: .ref v2 :: st) = if ab_si v2 .int v1 = true then ab_res scr 62 d (ab_up M v2 v1.toNatClampNeg v0) 93 [l0, l1, l2, l3] (st) else none := ab_o_iastore (ab_dc hc62 dX9_readOne_92)
theorem q62_93 {x : Int32} : ab_res scr 62 d M 93 [l0, l1, some (.int x), l3] (st) = ab_res scr 62 d M 96 [l0, ab_nl l1, some (.int (x + 1)), l3] (st) := (ab_o_iinc (k := 2) (ab_dc hc62 dX9_readOne_93) hn62 (by decide) rfl).trans (by rw [ki_iconst_1]; exact ab_kl1 [l0] _ l1 rfl rfl)
theorem q62_96 : ab_res scr 62 d M 96 [l0, l1, l2, l3] (st) = ab_res scr 62 d M 28 [l0, l1, l2, l3] (st) := ab_o_goto (ab_dc hc62 dX9_readOne_96) (by decide)
theorem q62_99 : ab_res scr 62 d M 99 [l0, l1, l2, l3] (st) = ab_res scr 62 d M 100 [l0, l1, l2, l3] (.int 1 :: st) := (ab_o_iconst (ab_dc hc62 dX9_readOne_99)).trans (by rw [ki_iconst_1])
theorem q62_100 {v0 : Int32} (hv : (narrow .boolean (.int v0) = .int v0) = True) : ab_res scr 62 d M 100 [l0, l1, l2, l3] ([.int v0]) = some (M, some (.int v0)) := ab_o_ireturn (ab_dc hc62 dX9_readOne_100) hr62 (of_eq_true hv)
end Q62
theorem hc63 : ab_code 63 = cX9_readWiths := rfl
theorem hn63 : ab_nL 63 = 5 := rfl
theorem hk63 : ab_ky 63 = 9 := rfl
theorem hr63 : ab_ret 63 = some .boolean := rfl
section Q63
variable {scr : Option (List Int32)} {d : Nat} {M : ab_M} {st : List Value} {l0 l1 l2 l3 l4 : Option Value}
theorem q63_0 : ab_res scr 63 d M 0 [l0, l1, l2, l3, l4] (st) = ab_res scr 63 d M 1 [l0, l1, l2, l3, l4] (.int 0 :: st) := (ab_o_iconst (ab_dc hc63 dX9_readWiths_0)).trans (by rw [ki_iconst_0])
theorem q63_1 {v0 : Int32} : ab_res scr 63 d M 1 [l0, l1, l2, l3, l4] (.int v0 :: st) = ab_res scr 63 d M 2 [l0, ab_nl l1, some (.int v0), l3, l4] (st) := (ab_o_st1 (k := 2) (ab_dc hc63 dX9_readWiths_1) (Or.inr (Or.inr (Or.inl ⟨2, rfl, rfl, rfl, ⟨_, rfl⟩⟩))) hn63 (by decide)).trans (ab_kl1 [l0] _ l1 rfl rfl)
theorem q63_2 : ab_res scr 63 d M 2 [l0, l1, l2, l3, l4] (st) = ab_res scr 63 d M 3 [l0, l1, l2, l3, l4] (.int 0 :: st) := (ab_o_iconst (ab_dc hc63 dX9_readWiths_2)).trans (by rw [ki_iconst_0])
theorem q63_3 {v0 : Int32} : ab_res scr 63 d M 3 [l0, l1, l2, l3, l4] (.int v0 :: st) = ab_res scr 63 d M 4 [l0, l1, ab_nl l2, some (.int v0), l4] (st) := (ab_o_st1 (k := 3) (ab_dc hc63 dX9_readWiths_3) (Or.inr (Or.inr (Or.inl ⟨3, rfl, rfl, rfl, ⟨_, rfl⟩⟩))) hn63 (by decide)).trans (ab_kl1 [l0, l1] _ l2 rfl rfl)
theorem q63_4 {x : Int32} : ab_res scr 63 d M 4 [l0, l1, l2, some (.int x), l4] (st) = ab_res scr 63 d M 5 [l0, l1, l2, some (.int x), l4] (.int x :: st) := ab_o_iload_n (ab_dc hc63 dX9_readWiths_4) rfl
theorem q63_5 : ab_res scr 63 d M 5 [l0, l1, l2, l3, l4] (st) = ab_res scr 63 d M 8 [l0, l1, l2, l3, l4] (.int 320 :: st) := (ab_o_sipush (ab_dc hc63 dX9_readWiths_5)).trans (by rw [ki_sipush_320])
theorem q63_8 {v0 : Int32} {v1 : Int32} : ab_res scr 63 d M 8 [l0, l1, l2, l3, l4] (.int v0 :: .int v1 :: st) = if v0 ≤ v1 then ab_res scr 63 d M 135 [l0, l1, l2, l3, l4] (st) else ab_res scr 63 d M 11 [l0, l1, l2, l3, l4] (st) := ab_o_br2 (off := 127) (ab_dc hc63 dX9_readWiths_8) (by decide) rfl rfl
theorem q63_11 {xr : Nat} : ab_res scr 63 d M 11 [some (.ref xr), l1, l2, l3, l4] (st) = ab_res scr 63 d M 12 [some (.ref xr), l1, l2, l3, l4] (.ref xr :: st) := ab_o_aload_n (ab_dc hc63 dX9_readWiths_11) rfl
theorem q63_12 {v0 : Nat} : ab_res scr 63 d M 12 [l0, l1, l2, l3, l4] (.ref v0 :: st) = (ab_gF ab_L0 M v0 9 1).bind fun v => ab_res scr 63 d M 15 [l0, l1, l2, l3, l4] (v :: st) := ab_o_getfield (ab_dc hc63 dX9_readWiths_12) hk63 lk_fl_9_29
theorem q63_15 {v0 : Nat} (hb : (ab_rc ab_L0 v0 = some 10) = True) : ab_res scr 63 7 M 15 [l0, l1, l2, l3, l4] ([.ref v0]) = (ab_ms scr 72 [.ref v0] M).bind fun o => ab_res scr 63 7 o.1 18 [l0, l1, l2, l3, l4] (ab_pr o.2 []) := ab_o_virtual (ab_dc hc63 dX9_readWiths_15) hk63 lk_ca_9_41 hm72 (Nat.le_of_ble_eq_true rfl) rfl rfl rfl (of_eq_true hb) rfl rfl
theorem q63_18 {xr : Nat} : ab_res scr 63 d M 18 [some (.ref xr), l1, l2, l3, l4] (st) = ab_res scr 63 d M 19 [some (.ref xr), l1, l2, l3, l4] (.ref xr :: st) := ab_o_aload_n (ab_dc hc63 dX9_readWiths_18) rfl
theorem q63_19 {v0 : Nat} : ab_res scr 63 d M 19 [l0, l1, l2, l3, l4] (.ref v0 :: st) = (ab_gF ab_L0 M v0 9 1).bind fun v => ab_res scr 63 d M 22 [l0, l1, l2, l3, l4] (v :: st) := ab_o_getfield (ab_dc hc63 dX9_readWiths_19) hk63 lk_fl_9_29
theorem q63_22 {v0 : Nat} : ab_res scr 63 d M 22 [l0, l1, l2, l3, l4] (.ref v0 :: st) = (ab_gF ab_L0 M v0 10 3).bind fun v => ab_res scr 63 d M 25 [l0, l1, l2, l3, l4] (v :: st) := ab_o_getfield (ab_dc hc63 dX9_readWiths_22) hk63 lk_fl_9_44
theorem q63_25 : ab_res scr 63 d M 25 [l0, l1, l2, l3, l4] (st) = ab_res scr 63 d M 26 [l0, l1, l2, l3, l4] (.int 3 :: st) := (ab_o_iconst (ab_dc hc63 dX9_readWiths_25)).trans (by rw [ki_iconst_3])
theorem q63_26 {v0 : Int32} {v1 : Int32} : ab_res scr 63 d M 26 [l0, l1, l2, l3, l4] (.int v0 :: .int v1 :: st) = if ¬ v1 = v0 then ab_res scr 63 d M 31 [l0, l1, l2, l3, l4] (st) else ab_res scr 63 d M 29 [l0, l1, l2, l3, l4] (st) := ab_o_br2 (off := 5) (ab_dc hc63 dX9_readWiths_26) (by decide) rfl rfl
theorem q63_29 : ab_res scr 63 d M 29 [l0, l1, l2, l3, l4] (st) = ab_res scr 63 d M 30 [l0, l1, l2, l3, l4] (.int 1 :: st) := (ab_o_iconst (ab_dc hc63 dX9_readWiths_29)).trans (by rw [ki_iconst_1])
theorem q63_30 {v0 : Int32} (hv : (narrow .boolean (.int v0) = .int v0) = True) : ab_res scr 63 d M 30 [l0, l1, l2, l3, l4] ([.int v0]) = some (M, some (.int v0)) := ab_o_ireturn (ab_dc hc63 dX9_readWiths_30) hr63 (of_eq_true hv)
theorem q63_31 {xr : Nat} : ab_res scr 63 d M 31 [some (.ref xr), l1, l2, l3, l4] (st) = ab_res scr 63 d M 32 [some (.ref xr), l1, l2, l3, l4] (.ref xr :: st) := ab_o_aload_n (ab_dc hc63 dX9_readWiths_31) rfl
theorem q63_32 {v0 : Nat} (hb : (ab_rc ab_L0 v0 = some 9) = True) : ab_res scr 63 7 M 32 [l0, l1, l2, l3, l4] ([.ref v0]) = (ab_ms scr 64 [.ref v0] M).bind fun o => ab_res scr 63 7 o.1 35 [l0, l1, l2, l3, l4] (ab_pr o.2 []) := ab_o_virtual (ab_dc hc63 dX9_readWiths_32) hk63 lk_ca_9_100 hm64 (Nat.le_of_ble_eq_true rfl) rfl rfl rfl (of_eq_true hb) rfl rfl
theorem q63_35 {v0 : Int32} : ab_res scr 63 d M 35 [l0, l1, l2, l3, l4] (.int v0 :: st) = ab_res scr 63 d M 37 [l0, l1, l2, ab_nl l3, some (.int v0)] (st) := (ab_o_st1 (k := 4) (ab_dc hc63 dX9_readWiths_35) (Or.inl ⟨rfl, rfl, ⟨_, rfl⟩⟩) hn63 (by decide)).trans (ab_kl1 [l0, l1, l2] _ l3 rfl rfl)
theorem q63_37 {x : Int32} : ab_res scr 63 d M 37 [l0, l1, l2, l3, some (.int x)] (st) = ab_res scr 63 d M 39 [l0, l1, l2, l3, some (.int x)] (.int x :: st) := ab_o_iload (ab_dc hc63 dX9_readWiths_37) rfl
theorem q63_39 : ab_res scr 63 d M 39 [l0, l1, l2, l3, l4] (st) = ab_res scr 63 d M 41 [l0, l1, l2, l3, l4] (.int (-4) :: st) := (ab_o_bipush (ab_dc hc63 dX9_readWiths_39)).trans (by rw [ki_bipush_m4])
theorem q63_41 {v0 : Int32} {v1 : Int32} : ab_res scr 63 d M 41 [l0, l1, l2, l3, l4] (.int v0 :: .int v1 :: st) = if ¬ v1 = v0 then ab_res scr 63 d M 49 [l0, l1, l2, l3, l4] (st) else ab_res scr 63 d M 44 [l0, l1, l2, l3, l4] (st) := ab_o_br2 (off := 8) (ab_dc hc63 dX9_readWiths_41) (by decide) rfl rfl
theorem q63_44 {xr : Nat} : ab_res scr 63 d M 44 [some (.ref xr), l1, l2, l3, l4] (st) = ab_res scr 63 d M 45 [some (.ref xr), l1, l2, l3, l4] (.ref xr :: st) := ab_o_aload_n (ab_dc hc63 dX9_readWiths_44) rfl
theorem q63_45 {v0 : Nat} (hb : (ab_rc ab_L0 v0 = some 9) = True) : ab_res scr 63 7 M 45 [l0, l1, l2, l3, l4] ([.ref v0]) = (ab_ms scr 67 [.ref v0] M).bind fun o => ab_res scr 63 7 o.1 48 [l0, l1, l2, l3, l4] (ab_pr o.2 []) := ab_o_virtual (ab_dc hc63 dX9_readWiths_45) hk63 lk_ca_9_72 hm67 (Nat.le_of_ble_eq_true rfl) rfl rfl rfl (of_eq_true hb) rfl rfl
theorem q63_48 {v0 : Int32} (hv : (narrow .boolean (.int v0) = .int v0) = True) : ab_res scr 63 d M 48 [l0, l1, l2, l3, l4] ([.int v0]) = some (M, some (.int v0)) := ab_o_ireturn (ab_dc hc63 dX9_readWiths_48) hr63 (of_eq_true hv)
theorem q63_49 {x : Int32} : ab_res scr 63 d M 49 [l0, l1, some (.int x), l3, l4] (st) = ab_res scr 63 d M 50 [l0, l1, some (.int x), l3, l4] (.int x :: st) := ab_o_iload_n (ab_dc hc63 dX9_readWiths_49) rfl
theorem q63_50 {x : Int32} : ab_res scr 63 d M 50 [l0, l1, l2, l3, some (.int x)] (st) = ab_res scr 63 d M 52 [l0, l1, l2, l3, some (.int x)] (.int x :: st) := ab_o_iload (ab_dc hc63 dX9_readWiths_50) rfl
theorem q63_52 {v0 : Int32} {v1 : Int32} : ab_res scr 63 d M 52 [l0, l1, l2, l3, l4] (.int v0 :: .int v1 :: st) = ab_res scr 63 d M 53 [l0, l1, l2, l3, l4] (.int (v1 >>> (v0 &&& 31)) :: st) := ab_xg (ab_dc hc63 dX9_readWiths_52) rfl rfl
theorem q63_53 : ab_res scr 63 d M 53 [l0, l1, l2, l3, l4] (st) = ab_res scr 63 d M 54 [l0, l1, l2, l3, l4] (.int 1 :: st) := (ab_o_iconst (ab_dc hc63 dX9_readWiths_53)).trans (by rw [ki_iconst_1])
theorem q63_54 {v0 : Int32} {v1 : Int32} : ab_res scr 63 d M 54 [l0, l1, l2, l3, l4] (.int v0 :: .int v1 :: st) = ab_res scr 63 d M 55 [l0, l1, l2, l3, l4] (.int (v1 &&& v0) :: st) := ab_xg (ab_dc hc63 dX9_readWiths_54) rfl rfl
theorem q63_55 {v0 : Int32} : ab_res scr 63 d M 55 [l0, l1, l2, l3, l4] (.int v0 :: st) = if v0 = 0 then ab_res scr 63 d M 64 [l0, l1, l2, l3, l4] (st) else ab_res scr 63 d M 58 [l0, l1, l2, l3, l4] (st) := ab_o_br2 (off := 9) (ab_dc hc63 dX9_readWiths_55) (by decide) rfl rfl
theorem q63_58 {xr : Nat} : ab_res scr 63 d M 58 [some (.ref xr), l1, l2, l3, l4] (st) = ab_res scr 63 d M 59 [some (.ref xr), l1, l2, l3, l4] (.ref xr :: st) := ab_o_aload_n (ab_dc hc63 dX9_readWiths_58) rfl
theorem q63_59 : ab_res scr 63 d M 59 [l0, l1, l2, l3, l4] (st) = ab_res scr 63 d M 60 [l0, l1, l2, l3, l4] (.int 4 :: st) := (ab_o_iconst (ab_dc hc63 dX9_readWiths_59)).trans (by rw [ki_iconst_4])
theorem q63_60 {v0 : Int32} {v1 : Nat} (hb : (ab_rc ab_L0 v1 = some 9) = True) : ab_res scr 63 7 M 60 [l0, l1, l2, l3, l4] ([.int v0, .ref v1]) = (ab_ms scr 68 [.ref v1, .int v0] M).bind fun o => ab_res scr 63 7 o.1 63 [l0, l1, l2, l3, l4] (ab_pr o.2 []) := ab_o_virtual (ab_dc hc63 dX9_readWiths_60) hk63 lk_ca_9_75 hm68 (Nat.le_of_ble_eq_true rfl) rfl rfl rfl (of_eq_true hb) rfl rfl
theorem q63_63 {v0 : Int32} (hv : (narrow .boolean (.int v0) = .int v0) = True) : ab_res scr 63 d M 63 [l0, l1, l2, l3, l4] ([.int v0]) = some (M, some (.int v0)) := ab_o_ireturn (ab_dc hc63 dX9_readWiths_63) hr63 (of_eq_true hv)
theorem q63_64 {x : Int32} : ab_res scr 63 d M 64 [l0, l1, some (.int x), l3, l4] (st) = ab_res scr 63 d M 65 [l0, l1, some (.int x), l3, l4] (.int x :: st) := ab_o_iload_n (ab_dc hc63 dX9_readWiths_64) rfl
theorem q63_65 : ab_res scr 63 d M 65 [l0, l1, l2, l3, l4] (st) = ab_res scr 63 d M 66 [l0, l1, l2, l3, l4] (.int 1 :: st) := (ab_o_iconst (ab_dc hc63 dX9_readWiths_65)).trans (by rw [ki_iconst_1])
theorem q63_66 {x : Int32} : ab_res scr 63 d M 66 [l0, l1, l2, l3, some (.int x)] (st) = ab_res scr 63 d M 68 [l0, l1, l2, l3, some (.int x)] (.int x :: st) := ab_o_iload (ab_dc hc63 dX9_readWiths_66) rfl
theorem q63_68 {v0 : Int32} {v1 : Int32} : ab_res scr 63 d M 68 [l0, l1, l2, l3, l4] (.int v0 :: .int v1 :: st) = ab_res scr 63 d M 69 [l0, l1, l2, l3, l4] (.int (v1 <<< (v0 &&& 31)) :: st) := ab_xg (ab_dc hc63 dX9_readWiths_68) rfl rfl
theorem q63_69 {v0 : Int32} {v1 : Int32} : ab_res scr 63 d M 69 [l0, l1, l2, l3, l4] (.int v0 :: .int v1 :: st) = ab_res scr 63 d M 70 [l0, l1, l2, l3, l4] (.int (v1 ||| v0) :: st) := ab_xg (ab_dc hc63 dX9_readWiths_69) rfl rfl
theorem q63_70 {v0 : Int32} : ab_res scr 63 d M 70 [l0, l1, l2, l3, l4] (.int v0 :: st) = ab_res scr 63 d M 71 [l0, ab_nl l1, some (.int v0), l3, l4] (st) := (ab_o_st1 (k := 2) (ab_dc hc63 dX9_readWiths_70) (Or.inr (Or.inr (Or.inl ⟨2, rfl, rfl, rfl, ⟨_, rfl⟩⟩))) hn63 (by decide)).trans (ab_kl1 [l0] _ l1 rfl rfl)
theorem q63_71 {x : Int32} : ab_res scr 63 d M 71 [l0, l1, l2, l3, some (.int x)] (st) = ab_res scr 63 d M 73 [l0, l1, l2, l3, some (.int x)] (.int x :: st) := ab_o_iload (ab_dc hc63 dX9_readWiths_71) rfl
theorem q63_73 : ab_res scr 63 d M 73 [l0, l1, l2, l3, l4] (st) = ab_res scr 63 d M 75 [l0, l1, l2, l3, l4] (.int 6 :: st) := (ab_o_bipush (ab_dc hc63 dX9_readWiths_73)).trans (by rw [ki_bipush_6])
theorem q63_75 {v0 : Int32} {v1 : Int32} : ab_res scr 63 d M 75 [l0, l1, l2, l3, l4] (.int v0 :: .int v1 :: st) = if v1 = v0 then ab_res scr 63 d M 99 [l0, l1, l2, l3, l4] (st) else ab_res scr 63 d M 78 [l0, l1, l2, l3, l4] (st) := ab_o_br2 (off := 24) (ab_dc hc63 dX9_readWiths_75) (by decide) rfl rfl
theorem q63_78 {xr : Nat} : ab_res scr 63 d M 78 [some (.ref xr), l1, l2, l3, l4] (st) = ab_res scr 63 d M 79 [some (.ref xr), l1, l2, l3, l4] (.ref xr :: st) := ab_o_aload_n (ab_dc hc63 dX9_readWiths_78) rfl
theorem q63_79 : ab_res scr 63 d M 79 [l0, l1, l2, l3, l4] (st) = ab_res scr 63 d M 82 [l0, l1, l2, l3, l4] (.ref 2000 :: st) := ab_o_getstatic (ab_dc hc63 dX9_readWiths_79) hk63 lk_st_9_86
theorem q63_82 {x : Int32} : ab_res scr 63 d M 82 [l0, l1, l2, l3, some (.int x)] (st) = ab_res scr 63 d M 84 [l0, l1, l2, l3, some (.int x)] (.int x :: st) := ab_o_iload (ab_dc hc63 dX9_readWiths_82) rfl
theorem q63_84 {v0 : Int32} {v1 : Nat} : ab_res scr 63 d M 84 [l0, l1, l2, l3, l4] (.int v0 :: .ref v1 :: st) = (ab_ald scr ab_L0 M v1 .int v0).bind fun v => ab_res scr 63 d M 85 [l0, l1, l2, l3, l4] (.int v :: st) := ab_o_iaload (ab_dc hc63 dX9_readWiths_84)
theorem q63_85 : ab_res scr 63 d M 85 [l0, l1, l2, l3, l4] (st) = ab_res scr 63 d M 88 [l0, l1, l2, l3, l4] (.ref 2001 :: st) := ab_o_getstatic (ab_dc hc63 dX9_readWiths_85) hk63 lk_st_9_90
theorem q63_88 {x : Int32} : ab_res scr 63 d M 88 [l0, l1, l2, l3, some (.int x)] (st) = ab_res scr 63 d M 90 [l0, l1, l2, l3, some (.int x)] (.int x :: st) := ab_o_iload (ab_dc hc63 dX9_readWiths_88) rfl
theorem q63_90 {v0 : Int32} {v1 : Nat} : ab_res scr 63 d M 90 [l0, l1, l2, l3, l4] (.int v0 :: .ref v1 :: st) = (ab_ald scr ab_L0 M v1 .int v0).bind fun v => ab_res scr 63 d M 91 [l0, l1, l2, l3, l4] (.int v :: st) := ab_o_iaload (ab_dc hc63 dX9_readWiths_90)
theorem q63_91 {v0 : Int32} {v1 : Int32} {v2 : Nat} (hb : (ab_rc ab_L0 v2 = some 9) = True) : ab_res scr 63 7 M 91 [l0, l1, l2, l3, l4] ([.int v0, .int v1, .ref v2]) = (ab_ms scr 66 [.ref v2, .int v1, .int v0] M).bind fun o => ab_res scr 63 7 o.1 94 [l0, l1, l2, l3, l4] (ab_pr o.2 []) := ab_o_virtual (ab_dc hc63 dX9_readWiths_91) hk63 lk_ca_9_93 hm66 (Nat.le_of_ble_eq_true rfl) rfl rfl rfl (of_eq_true hb) rfl rfl
theorem q63_94 {v0 : Int32} : ab_res scr 63 d M 94 [l0, l1, l2, l3, l4] (.int v0 :: st) = if ¬ v0 = 0 then ab_res scr 63 d M 99 [l0, l1, l2, l3, l4] (st) else ab_res scr 63 d M 97 [l0, l1, l2, l3, l4] (st) := ab_o_br2 (off := 5) (ab_dc hc63 dX9_readWiths_94) (by decide) rfl rfl
theorem q63_97 : ab_res scr 63 d M 97 [l0, l1, l2, l3, l4] (st) = ab_res scr 63 d M 98 [l0, l1, l2, l3, l4] (.int 0 :: st) := (ab_o_iconst (ab_dc hc63 dX9_readWiths_97)).trans (by rw [ki_iconst_0])
theorem q63_98 {v0 : Int32} (hv : (narrow .boolean (.int v0) = .int v0) = True) : ab_res scr 63 d M 98 [l0, l1, l2, l3, l4] ([.int v0]) = some (M, some (.int v0)) := ab_o_ireturn (ab_dc hc63 dX9_readWiths_98) hr63 (of_eq_true hv)
theorem q63_99 {xr : Nat} : ab_res scr 63 d M 99 [some (.ref xr), l1, l2, l3, l4] (st) = ab_res scr 63 d M 100 [some (.ref xr), l1, l2, l3, l4] (.ref xr :: st) := ab_o_aload_n (ab_dc hc63 dX9_readWiths_99) rfl
theorem q63_100 {v0 : Nat} : ab_res scr 63 d M 100 [l0, l1, l2, l3, l4] (.ref v0 :: st) = (ab_gF ab_L0 M v0 9 0).bind fun v => ab_res scr 63 d M 103 [l0, l1, l2, l3, l4] (v :: st) := ab_o_getfield (ab_dc hc63 dX9_readWiths_100) hk63 lk_fl_9_12
theorem q63_103 {v0 : Nat} : ab_res scr 63 d M 103 [l0, l1, l2, l3, l4] (.ref v0 :: st) = (ab_gF ab_L0 M v0 4 0).bind fun v => ab_res scr 63 d M 106 [l0, l1, l2, l3, l4] (v :: st) := ab_o_getfield (ab_dc hc63 dX9_readWiths_103) hk63 lk_fl_9_82
theorem q63_106 {x : Int32} : ab_res scr 63 d M 106 [l0, l1, l2, l3, some (.int x)] (st) = ab_res scr 63 d M 108 [l0, l1, l2, l3, some (.int x)] (.int x :: st) := ab_o_iload (ab_dc hc63 dX9_readWiths_106) rfl
theorem q63_108 {v0 : Int32} {v1 : Nat} : ab_res scr 63 d M 108 [l0, l1, l2, l3, l4] (.int v0 :: .ref v1 :: st) = (ab_qe v1 v0).bind fun v => ab_res scr 63 d M 109 [l0, l1, l2, l3, l4] (v :: st) := ab_o_aaload (ab_dc hc63 dX9_readWiths_108)
theorem q63_109 {x : Int32} : ab_res scr 63 d M 109 [l0, some (.int x), l2, l3, l4] (st) = ab_res scr 63 d M 110 [l0, some (.int x), l2, l3, l4] (.int x :: st) := ab_o_iload_n (ab_dc hc63 dX9_readWiths_109) rfl
theorem q63_110 {x : Int32} : ab_res scr 63 d M 110 [l0, l1, l2, l3, some (.int x)] (st) = ab_res scr 63 d M 112 [l0, l1, l2, l3, some (.int x)] (.int x :: st) := ab_o_iload (ab_dc hc63 dX9_readWiths_110) rfl
theorem q63_112 : ab_res scr 63 d M 112 [l0, l1, l2, l3, l4] (st) = ab_res scr 63 d M 114 [l0, l1, l2, l3, l4] (.int 6 :: st) := (ab_o_bipush (ab_dc hc63 dX9_readWiths_112)).trans (by rw [ki_bipush_6])
theorem q63_114 {v0 : Int32} {v1 : Int32} : ab_res scr 63 d M 114 [l0, l1, l2, l3, l4] (.int v0 :: .int v1 :: st) = if ¬ v1 = v0 then ab_res scr 63 d M 121 [l0, l1, l2, l3, l4] (st) else ab_res scr 63 d M 117 [l0, l1, l2, l3, l4] (st) := ab_o_br2 (off := 7) (ab_dc hc63 dX9_readWiths_114) (by decide) rfl rfl
theorem q63_117 : ab_res scr 63 d M 117 [l0, l1, l2, l3, l4] (st) = ab_res scr 63 d M 118 [l0, l1, l2, l3, l4] (.int 1 :: st) := (ab_o_iconst (ab_dc hc63 dX9_readWiths_117)).trans (by rw [ki_iconst_1])
theorem q63_118 : ab_res scr 63 d M 118 [l0, l1, l2, l3, l4] (st) = ab_res scr 63 d M 128 [l0, l1, l2, l3, l4] (st) := ab_o_goto (ab_dc hc63 dX9_readWiths_118) (by decide)
theorem q63_121 {xr : Nat} : ab_res scr 63 d M 121 [some (.ref xr), l1, l2, l3, l4] (st) = ab_res scr 63 d M 122 [some (.ref xr), l1, l2, l3, l4] (.ref xr :: st) := ab_o_aload_n (ab_dc hc63 dX9_readWiths_121) rfl
theorem q63_122 {v0 : Nat} : ab_res scr 63 d M 122 [l0, l1, l2, l3, l4] (.ref v0 :: st) = (ab_gF ab_L0 M v0 9 1).bind fun v => ab_res scr 63 d M 125 [l0, l1, l2, l3, l4] (v :: st) := ab_o_getfield (ab_dc hc63 dX9_readWiths_122) hk63 lk_fl_9_29
theorem q63_125 {v0 : Nat} : ab_res scr 63 d M 125 [l0, l1, l2, l3, l4] (.ref v0 :: st) = (ab_gF ab_L0 M v0 10 5).bind fun v => ab_res scr 63 d M 128 [l0, l1, l2, l3, l4] (v :: st) := ab_o_getfield (ab_dc hc63 dX9_readWiths_125) hk63 lk_fl_9_97
theorem q63_128 {v0 : Int32} {v1 : Int32} {v2 : Nat} : ab_res scr 63 d M 128 [l0, l1, l2, l3, l4] (.int v0 :: .int v1 :: .ref v2 :: st) = if ab_si v2 .int v1 = true then ab_res scr 63 d (ab_up M v2 v1.toNatClampNeg v0) 129 [l0, l1, l2, l3, l4] (st) else none := ab_o_iastore (ab_dc hc63 dX9_readWiths_128)
theorem q63_129 {x : Int32} : ab_res scr 63 d M 129 [l0, l1, l2, some (.int x), l4] (st) = ab_res scr 63 d M 132 [l0, l1, ab_nl l2, some (.int (x + 1)), l4] (st) := (ab_o_iinc (k := 3) (ab_dc hc63 dX9_readWiths_129) hn63 (by decide) rfl).trans (by rw [ki_iconst_1]; exact ab_kl1 [l0, l1] _ l2 rfl rfl)
theorem q63_132 : ab_res scr 63 d M 132 [l0, l1, l2, l3, l4] (st) = ab_res scr 63 d M 4 [l0, l1, l2, l3, l4] (st) := ab_o_goto (ab_dc hc63 dX9_readWiths_132) (by decide)
theorem q63_135 {xr : Nat} : ab_res scr 63 d M 135 [some (.ref xr), l1, l2, l3, l4] (st) = ab_res scr 63 d M 136 [some (.ref xr), l1, l2, l3, l4] (.ref xr :: st) := ab_o_aload_n (ab_dc hc63 dX9_readWiths_135) rfl
theorem q63_136 {v0 : Nat} (hb : (ab_rc ab_L0 v0 = some 9) = True) : ab_res scr 63 7 M 136 [l0, l1, l2, l3, l4] ([.ref v0]) = (ab_ms scr 67 [.ref v0] M).bind fun o => ab_res scr 63 7 o.1 139 [l0, l1, l2, l3, l4] (ab_pr o.2 []) := ab_o_virtual (ab_dc hc63 dX9_readWiths_136) hk63 lk_ca_9_72 hm67 (Nat.le_of_ble_eq_true rfl) rfl rfl rfl (of_eq_true hb) rfl rfl
theorem q63_139 {v0 : Int32} (hv : (narrow .boolean (.int v0) = .int v0) = True) : ab_res scr 63 d M 139 [l0, l1, l2, l3, l4] ([.int v0]) = some (M, some (.int v0)) := ab_o_ireturn (ab_dc hc63 dX9_readWiths_139) hr63 (of_eq_true hv)
end Q63
theorem hc64 : ab_code 64 = cX9_withFact := rfl
theorem hn64 : ab_nL 64 = 1 := rfl
theorem hk64 : ab_ky 64 = 9 := rfl
theorem hr64 : ab_ret 64 = some .int := rfl
section Q64
variable {scr : Option (List Int32)} {d : Nat} {M : ab_M} {st : List Value} {l0 : Option Value}
theorem q64_0 {xr : Nat} : ab_res scr 64 d M 0 [some (.ref xr)] (st) = ab_res scr 64 d M 1 [some (.ref xr)] (.ref xr :: st) := ab_o_aload_n (ab_dc hc64 dX9_withFact_0) rfl
theorem q64_1 {v0 : Nat} : ab_res scr 64 d M 1 [l0] (.ref v0 :: st) = (ab_gF ab_L0 M v0 9 1).bind fun v => ab_res scr 64 d M 4 [l0] (v :: st) := ab_o_getfield (ab_dc hc64 dX9_withFact_1) hk64 lk_fl_9_29
theorem q64_4 : ab_res scr 64 d M 4 [l0] (st) = ab_res scr 64 d M 6 [l0] (.ref 1002 :: st) := ab_o_ldcS (ab_dc hc64 dX9_withFact_4) hk64 lk_kn_9_103 rfl
theorem q64_6 {v0 : Nat} {v1 : Nat} (hb : (ab_rc ab_L0 v1 = some 10) = True) : ab_res scr 64 6 M 6 [l0] ([.ref v0, .ref v1]) = (ab_ms scr 77 [.ref v1, .ref v0] M).bind fun o => ab_res scr 64 6 o.1 9 [l0] (ab_pr o.2 []) := ab_o_virtual (ab_dc hc64 dX9_withFact_6) hk64 lk_ca_9_53 hm77 (Nat.le_of_ble_eq_true rfl) rfl rfl rfl (of_eq_true hb) rfl rfl
theorem q64_9 {v0 : Int32} : ab_res scr 64 d M 9 [l0] (.int v0 :: st) = if v0 = 0 then ab_res scr 64 d M 14 [l0] (st) else ab_res scr 64 d M 12 [l0] (st) := ab_o_br2 (off := 5) (ab_dc hc64 dX9_withFact_9) (by decide) rfl rfl
theorem q64_12 : ab_res scr 64 d M 12 [l0] (st) = ab_res scr 64 d M 13 [l0] (.int 4 :: st) := (ab_o_iconst (ab_dc hc64 dX9_withFact_12)).trans (by rw [ki_iconst_4])
theorem q64_13 {v0 : Int32} : ab_res scr 64 d M 13 [l0] ([.int v0]) = some (M, some (.int v0)) := ab_o_ireturn (ab_dc hc64 dX9_withFact_13) hr64 rfl
theorem q64_14 {xr : Nat} : ab_res scr 64 d M 14 [some (.ref xr)] (st) = ab_res scr 64 d M 15 [some (.ref xr)] (.ref xr :: st) := ab_o_aload_n (ab_dc hc64 dX9_withFact_14) rfl
theorem q64_15 {v0 : Nat} : ab_res scr 64 d M 15 [l0] (.ref v0 :: st) = (ab_gF ab_L0 M v0 9 1).bind fun v => ab_res scr 64 d M 18 [l0] (v :: st) := ab_o_getfield (ab_dc hc64 dX9_withFact_15) hk64 lk_fl_9_29
theorem q64_18 : ab_res scr 64 d M 18 [l0] (st) = ab_res scr 64 d M 20 [l0] (.ref 1003 :: st) := ab_o_ldcS (ab_dc hc64 dX9_withFact_18) hk64 lk_kn_9_105 rfl
theorem q64_20 {v0 : Nat} {v1 : Nat} (hb : (ab_rc ab_L0 v1 = some 10) = True) : ab_res scr 64 6 M 20 [l0] ([.ref v0, .ref v1]) = (ab_ms scr 77 [.ref v1, .ref v0] M).bind fun o => ab_res scr 64 6 o.1 23 [l0] (ab_pr o.2 []) := ab_o_virtual (ab_dc hc64 dX9_withFact_20) hk64 lk_ca_9_53 hm77 (Nat.le_of_ble_eq_true rfl) rfl rfl rfl (of_eq_true hb) rfl rfl
theorem q64_23 {v0 : Int32} : ab_res scr 64 d M 23 [l0] (.int v0 :: st) = if v0 = 0 then ab_res scr 64 d M 28 [l0] (st) else ab_res scr 64 d M 26 [l0] (st) := ab_o_br2 (off := 5) (ab_dc hc64 dX9_withFact_23) (by decide) rfl rfl
theorem q64_26 : ab_res scr 64 d M 26 [l0] (st) = ab_res scr 64 d M 27 [l0] (.int 5 :: st) := (ab_o_iconst (ab_dc hc64 dX9_withFact_26)).trans (by rw [ki_iconst_5])
theorem q64_27 {v0 : Int32} : ab_res scr 64 d M 27 [l0] ([.int v0]) = some (M, some (.int v0)) := ab_o_ireturn (ab_dc hc64 dX9_withFact_27) hr64 rfl
theorem q64_28 {xr : Nat} : ab_res scr 64 d M 28 [some (.ref xr)] (st) = ab_res scr 64 d M 29 [some (.ref xr)] (.ref xr :: st) := ab_o_aload_n (ab_dc hc64 dX9_withFact_28) rfl
theorem q64_29 {v0 : Nat} : ab_res scr 64 d M 29 [l0] (.ref v0 :: st) = (ab_gF ab_L0 M v0 9 1).bind fun v => ab_res scr 64 d M 32 [l0] (v :: st) := ab_o_getfield (ab_dc hc64 dX9_withFact_29) hk64 lk_fl_9_29
theorem q64_32 : ab_res scr 64 d M 32 [l0] (st) = ab_res scr 64 d M 34 [l0] (.ref 1004 :: st) := ab_o_ldcS (ab_dc hc64 dX9_withFact_32) hk64 lk_kn_9_107 rfl
theorem q64_34 {v0 : Nat} {v1 : Nat} (hb : (ab_rc ab_L0 v1 = some 10) = True) : ab_res scr 64 6 M 34 [l0] ([.ref v0, .ref v1]) = (ab_ms scr 77 [.ref v1, .ref v0] M).bind fun o => ab_res scr 64 6 o.1 37 [l0] (ab_pr o.2 []) := ab_o_virtual (ab_dc hc64 dX9_withFact_34) hk64 lk_ca_9_53 hm77 (Nat.le_of_ble_eq_true rfl) rfl rfl rfl (of_eq_true hb) rfl rfl
theorem q64_37 {v0 : Int32} : ab_res scr 64 d M 37 [l0] (.int v0 :: st) = if v0 = 0 then ab_res scr 64 d M 45 [l0] (st) else ab_res scr 64 d M 40 [l0] (st) := ab_o_br2 (off := 8) (ab_dc hc64 dX9_withFact_37) (by decide) rfl rfl
theorem q64_40 : ab_res scr 64 d M 40 [l0] (st) = ab_res scr 64 d M 42 [l0] (.int 6 :: st) := (ab_o_bipush (ab_dc hc64 dX9_withFact_40)).trans (by rw [ki_bipush_6])
theorem q64_42 : ab_res scr 64 d M 42 [l0] (st) = ab_res scr 64 d M 47 [l0] (st) := ab_o_goto (ab_dc hc64 dX9_withFact_42) (by decide)
theorem q64_45 : ab_res scr 64 d M 45 [l0] (st) = ab_res scr 64 d M 47 [l0] (.int (-4) :: st) := (ab_o_bipush (ab_dc hc64 dX9_withFact_45)).trans (by rw [ki_bipush_m4])
theorem q64_47 {v0 : Int32} : ab_res scr 64 d M 47 [l0] ([.int v0]) = some (M, some (.int v0)) := ab_o_ireturn (ab_dc hc64 dX9_withFact_47) hr64 rfl
end Q64
theorem hc65 : ab_code 65 = cX9_readBegin := rfl
theorem hn65 : ab_nL 65 = 1 := rfl
theorem hk65 : ab_ky 65 = 9 := rfl
theorem hr65 : ab_ret 65 = some .boolean := rfl
section Q65
variable {scr : Option (List Int32)} {d : Nat} {M : ab_M} {st : List Value} {l0 : Option Value}
theorem q65_0 {xr : Nat} : ab_res scr 65 d M 0 [some (.ref xr)] (st) = ab_res scr 65 d M 1 [some (.ref xr)] (.ref xr :: st) := ab_o_aload_n (ab_dc hc65 dX9_readBegin_0) rfl
theorem q65_1 {v0 : Nat} : ab_res scr 65 d M 1 [l0] (.ref v0 :: st) = (ab_gF ab_L0 M v0 9 4).bind fun v => ab_res scr 65 d M 4 [l0] (v :: st) := ab_o_getfield (ab_dc hc65 dX9_readBegin_1) hk65 lk_fl_9_25
theorem q65_4 {v0 : Int32} : ab_res scr 65 d M 4 [l0] (.int v0 :: st) = if v0 = 0 then ab_res scr 65 d M 13 [l0] (st) else ab_res scr 65 d M 7 [l0] (st) := ab_o_br2 (off := 9) (ab_dc hc65 dX9_readBegin_4) (by decide) rfl rfl
theorem q65_7 {xr : Nat} : ab_res scr 65 d M 7 [some (.ref xr)] (st) = ab_res scr 65 d M 8 [some (.ref xr)] (.ref xr :: st) := ab_o_aload_n (ab_dc hc65 dX9_readBegin_7) rfl
theorem q65_8 : ab_res scr 65 d M 8 [l0] (st) = ab_res scr 65 d M 9 [l0] (.int 4 :: st) := (ab_o_iconst (ab_dc hc65 dX9_readBegin_8)).trans (by rw [ki_iconst_4])
theorem q65_9 {v0 : Int32} {v1 : Nat} (hb : (ab_rc ab_L0 v1 = some 9) = True) : ab_res scr 65 5 M 9 [l0] ([.int v0, .ref v1]) = (ab_ms scr 68 [.ref v1, .int v0] M).bind fun o => ab_res scr 65 5 o.1 12 [l0] (ab_pr o.2 []) := ab_o_virtual (ab_dc hc65 dX9_readBegin_9) hk65 lk_ca_9_75 hm68 (Nat.le_of_ble_eq_true rfl) rfl rfl rfl (of_eq_true hb) rfl rfl
theorem q65_12 {v0 : Int32} (hv : (narrow .boolean (.int v0) = .int v0) = True) : ab_res scr 65 d M 12 [l0] ([.int v0]) = some (M, some (.int v0)) := ab_o_ireturn (ab_dc hc65 dX9_readBegin_12) hr65 (of_eq_true hv)
theorem q65_13 {xr : Nat} : ab_res scr 65 d M 13 [some (.ref xr)] (st) = ab_res scr 65 d M 14 [some (.ref xr)] (.ref xr :: st) := ab_o_aload_n (ab_dc hc65 dX9_readBegin_13) rfl
theorem q65_14 : ab_res scr 65 d M 14 [l0] (st) = ab_res scr 65 d M 15 [l0] (.int 1 :: st) := (ab_o_iconst (ab_dc hc65 dX9_readBegin_14)).trans (by rw [ki_iconst_1])
theorem q65_15 {v0 : Int32} {v1 : Nat} (hp : (ab_pt v1 9 4 v0 = true) = True) : ab_res scr 65 d M 15 [l0] (.int v0 :: .ref v1 :: st) = ab_res scr 65 d (ab_up M v1 4 v0) 18 [l0] (st) := ab_o_putfield (ab_dc hc65 dX9_readBegin_15) hk65 lk_fl_9_25 (of_eq_true hp)
theorem q65_18 {xr : Nat} : ab_res scr 65 d M 18 [some (.ref xr)] (st) = ab_res scr 65 d M 19 [some (.ref xr)] (.ref xr :: st) := ab_o_aload_n (ab_dc hc65 dX9_readBegin_18) rfl
theorem q65_19 : ab_res scr 65 d M 19 [l0] (st) = ab_res scr 65 d M 20 [l0] (.int 1 :: st) := (ab_o_iconst (ab_dc hc65 dX9_readBegin_19)).trans (by rw [ki_iconst_1])
theorem q65_20 : ab_res scr 65 d M 20 [l0] (st) = ab_res scr 65 d M 22 [l0] (.int 8 :: st) := (ab_o_bipush (ab_dc hc65 dX9_readBegin_20)).trans (by rw [ki_bipush_8])
theorem q65_22 {v0 : Int32} {v1 : Int32} {v2 : Nat} (hb : (ab_rc ab_L0 v2 = some 9) = True) : ab_res scr 65 5 M 22 [l0] ([.int v0, .int v1, .ref v2]) = (ab_ms scr 66 [.ref v2, .int v1, .int v0] M).bind fun o => ab_res scr 65 5 o.1 25 [l0] (ab_pr o.2 []) := ab_o_virtual (ab_dc hc65 dX9_readBegin_22) hk65 lk_ca_9_93 hm66 (Nat.le_of_ble_eq_true rfl) rfl rfl rfl (of_eq_true hb) rfl rfl
theorem q65_25 {v0 : Int32} : ab_res scr 65 d M 25 [l0] (.int v0 :: st) = if ¬ v0 = 0 then ab_res scr 65 d M 30 [l0] (st) else ab_res scr 65 d M 28 [l0] (st) := ab_o_br2 (off := 5) (ab_dc hc65 dX9_readBegin_25) (by decide) rfl rfl
theorem q65_28 : ab_res scr 65 d M 28 [l0] (st) = ab_res scr 65 d M 29 [l0] (.int 0 :: st) := (ab_o_iconst (ab_dc hc65 dX9_readBegin_28)).trans (by rw [ki_iconst_0])
theorem q65_29 {v0 : Int32} (hv : (narrow .boolean (.int v0) = .int v0) = True) : ab_res scr 65 d M 29 [l0] ([.int v0]) = some (M, some (.int v0)) := ab_o_ireturn (ab_dc hc65 dX9_readBegin_29) hr65 (of_eq_true hv)
theorem q65_30 {xr : Nat} : ab_res scr 65 d M 30 [some (.ref xr)] (st) = ab_res scr 65 d M 31 [some (.ref xr)] (.ref xr :: st) := ab_o_aload_n (ab_dc hc65 dX9_readBegin_30) rfl
theorem q65_31 {v0 : Nat} : ab_res scr 65 d M 31 [l0] (.ref v0 :: st) = (ab_gF ab_L0 M v0 9 0).bind fun v => ab_res scr 65 d M 34 [l0] (v :: st) := ab_o_getfield (ab_dc hc65 dX9_readBegin_31) hk65 lk_fl_9_12
theorem q65_34 {xr : Nat} : ab_res scr 65 d M 34 [some (.ref xr)] (st) = ab_res scr 65 d M 35 [some (.ref xr)] (.ref xr :: st) := ab_o_aload_n (ab_dc hc65 dX9_readBegin_34) rfl
theorem q65_35 {v0 : Nat} : ab_res scr 65 d M 35 [l0] (.ref v0 :: st) = (ab_gF ab_L0 M v0 9 1).bind fun v => ab_res scr 65 d M 38 [l0] (v :: st) := ab_o_getfield (ab_dc hc65 dX9_readBegin_35) hk65 lk_fl_9_29
theorem q65_38 {v0 : Nat} : ab_res scr 65 d M 38 [l0] (.ref v0 :: st) = (ab_gF ab_L0 M v0 10 5).bind fun v => ab_res scr 65 d M 41 [l0] (v :: st) := ab_o_getfield (ab_dc hc65 dX9_readBegin_38) hk65 lk_fl_9_97
theorem q65_41 {v0 : Int32} {v1 : Nat} (hp : (ab_pt v1 4 4 v0 = true) = True) : ab_res scr 65 d M 41 [l0] (.int v0 :: .ref v1 :: st) = ab_res scr 65 d (ab_up M v1 4 v0) 44 [l0] (st) := ab_o_putfield (ab_dc hc65 dX9_readBegin_41) hk65 lk_fl_9_109 (of_eq_true hp)
theorem q65_44 {xr : Nat} : ab_res scr 65 d M 44 [some (.ref xr)] (st) = ab_res scr 65 d M 45 [some (.ref xr)] (.ref xr :: st) := ab_o_aload_n (ab_dc hc65 dX9_readBegin_44) rfl
theorem q65_45 {v0 : Nat} : ab_res scr 65 d M 45 [l0] (.ref v0 :: st) = (ab_gF ab_L0 M v0 9 1).bind fun v => ab_res scr 65 d M 48 [l0] (v :: st) := ab_o_getfield (ab_dc hc65 dX9_readBegin_45) hk65 lk_fl_9_29
theorem q65_48 {v0 : Nat} (hb : (ab_rc ab_L0 v0 = some 10) = True) : ab_res scr 65 5 M 48 [l0] ([.ref v0]) = (ab_ms scr 72 [.ref v0] M).bind fun o => ab_res scr 65 5 o.1 51 [l0] (ab_pr o.2 []) := ab_o_virtual (ab_dc hc65 dX9_readBegin_48) hk65 lk_ca_9_41 hm72 (Nat.le_of_ble_eq_true rfl) rfl rfl rfl (of_eq_true hb) rfl rfl
theorem q65_51 {xr : Nat} : ab_res scr 65 d M 51 [some (.ref xr)] (st) = ab_res scr 65 d M 52 [some (.ref xr)] (.ref xr :: st) := ab_o_aload_n (ab_dc hc65 dX9_readBegin_51) rfl
theorem q65_52 {v0 : Nat} : ab_res scr 65 d M 52 [l0] (.ref v0 :: st) = (ab_gF ab_L0 M v0 9 1).bind fun v => ab_res scr 65 d M 55 [l0] (v :: st) := ab_o_getfield (ab_dc hc65 dX9_readBegin_52) hk65 lk_fl_9_29
theorem q65_55 {v0 : Nat} : ab_res scr 65 d M 55 [l0] (.ref v0 :: st) = (ab_gF ab_L0 M v0 10 3).bind fun v => ab_res scr 65 d M 58 [l0] (v :: st) := ab_o_getfield (ab_dc hc65 dX9_readBegin_55) hk65 lk_fl_9_44
theorem q65_58 : ab_res scr 65 d M 58 [l0] (st) = ab_res scr 65 d M 59 [l0] (.int 3 :: st) := (ab_o_iconst (ab_dc hc65 dX9_readBegin_58)).trans (by rw [ki_iconst_3])
theorem q65_59 {v0 : Int32} {v1 : Int32} : ab_res scr 65 d M 59 [l0] (.int v0 :: .int v1 :: st) = if v1 = v0 then ab_res scr 65 d M 69 [l0] (st) else ab_res scr 65 d M 62 [l0] (st) := ab_o_br2 (off := 10) (ab_dc hc65 dX9_readBegin_59) (by decide) rfl rfl
theorem q65_62 {xr : Nat} : ab_res scr 65 d M 62 [some (.ref xr)] (st) = ab_res scr 65 d M 63 [some (.ref xr)] (.ref xr :: st) := ab_o_aload_n (ab_dc hc65 dX9_readBegin_62) rfl
theorem q65_63 {v0 : Nat} (hb : (ab_rc ab_L0 v0 = some 9) = True) : ab_res scr 65 5 M 63 [l0] ([.ref v0]) = (ab_ms scr 67 [.ref v0] M).bind fun o => ab_res scr 65 5 o.1 66 [l0] (ab_pr o.2 []) := ab_o_virtual (ab_dc hc65 dX9_readBegin_63) hk65 lk_ca_9_72 hm67 (Nat.le_of_ble_eq_true rfl) rfl rfl rfl (of_eq_true hb) rfl rfl
theorem q65_66 {v0 : Int32} : ab_res scr 65 d M 66 [l0] (.int v0 :: st) = if v0 = 0 then ab_res scr 65 d M 73 [l0] (st) else ab_res scr 65 d M 69 [l0] (st) := ab_o_br2 (off := 7) (ab_dc hc65 dX9_readBegin_66) (by decide) rfl rfl
theorem q65_69 : ab_res scr 65 d M 69 [l0] (st) = ab_res scr 65 d M 70 [l0] (.int 1 :: st) := (ab_o_iconst (ab_dc hc65 dX9_readBegin_69)).trans (by rw [ki_iconst_1])
theorem q65_70 : ab_res scr 65 d M 70 [l0] (st) = ab_res scr 65 d M 74 [l0] (st) := ab_o_goto (ab_dc hc65 dX9_readBegin_70) (by decide)
theorem q65_73 : ab_res scr 65 d M 73 [l0] (st) = ab_res scr 65 d M 74 [l0] (.int 0 :: st) := (ab_o_iconst (ab_dc hc65 dX9_readBegin_73)).trans (by rw [ki_iconst_0])
theorem q65_74 {v0 : Int32} (hv : (narrow .boolean (.int v0) = .int v0) = True) : ab_res scr 65 d M 74 [l0] ([.int v0]) = some (M, some (.int v0)) := ab_o_ireturn (ab_dc hc65 dX9_readBegin_74) hr65 (of_eq_true hv)
end Q65
theorem hc66 : ab_code 66 = cX9_readNumber := rfl
theorem hn66 : ab_nL 66 = 3 := rfl
theorem hk66 : ab_ky 66 = 9 := rfl
theorem hr66 : ab_ret 66 = some .boolean := rfl
section Q66
variable {scr : Option (List Int32)} {d : Nat} {M : ab_M} {st : List Value} {l0 l1 l2 : Option Value}
theorem q66_0 {xr : Nat} : ab_res scr 66 d M 0 [some (.ref xr), l1, l2] (st) = ab_res scr 66 d M 1 [some (.ref xr), l1, l2] (.ref xr :: st) := ab_o_aload_n (ab_dc hc66 dX9_readNumber_0) rfl
theorem q66_1 {v0 : Nat} : ab_res scr 66 d M 1 [l0, l1, l2] (.ref v0 :: st) = (ab_gF ab_L0 M v0 9 1).bind fun v => ab_res scr 66 d M 4 [l0, l1, l2] (v :: st) := ab_o_getfield (ab_dc hc66 dX9_readNumber_1) hk66 lk_fl_9_29
theorem q66_4 {v0 : Nat} (hb : (ab_rc ab_L0 v0 = some 10) = True) : ab_res scr 66 4 M 4 [l0, l1, l2] ([.ref v0]) = (ab_ms scr 72 [.ref v0] M).bind fun o => ab_res scr 66 4 o.1 7 [l0, l1, l2] (ab_pr o.2 []) := ab_o_virtual (ab_dc hc66 dX9_readNumber_4) hk66 lk_ca_9_41 hm72 (Nat.le_of_ble_eq_true rfl) rfl rfl rfl (of_eq_true hb) rfl rfl
theorem q66_7 {xr : Nat} : ab_res scr 66 d M 7 [some (.ref xr), l1, l2] (st) = ab_res scr 66 d M 8 [some (.ref xr), l1, l2] (.ref xr :: st) := ab_o_aload_n (ab_dc hc66 dX9_readNumber_7) rfl
theorem q66_8 {v0 : Nat} : ab_res scr 66 d M 8 [l0, l1, l2] (.ref v0 :: st) = (ab_gF ab_L0 M v0 9 1).bind fun v => ab_res scr 66 d M 11 [l0, l1, l2] (v :: st) := ab_o_getfield (ab_dc hc66 dX9_readNumber_8) hk66 lk_fl_9_29
theorem q66_11 {v0 : Nat} : ab_res scr 66 d M 11 [l0, l1, l2] (.ref v0 :: st) = (ab_gF ab_L0 M v0 10 3).bind fun v => ab_res scr 66 d M 14 [l0, l1, l2] (v :: st) := ab_o_getfield (ab_dc hc66 dX9_readNumber_11) hk66 lk_fl_9_44
theorem q66_14 : ab_res scr 66 d M 14 [l0, l1, l2] (st) = ab_res scr 66 d M 15 [l0, l1, l2] (.int 2 :: st) := (ab_o_iconst (ab_dc hc66 dX9_readNumber_14)).trans (by rw [ki_iconst_2])
theorem q66_15 {v0 : Int32} {v1 : Int32} : ab_res scr 66 d M 15 [l0, l1, l2] (.int v0 :: .int v1 :: st) = if v1 = v0 then ab_res scr 66 d M 23 [l0, l1, l2] (st) else ab_res scr 66 d M 18 [l0, l1, l2] (st) := ab_o_br2 (off := 8) (ab_dc hc66 dX9_readNumber_15) (by decide) rfl rfl
theorem q66_18 {xr : Nat} : ab_res scr 66 d M 18 [some (.ref xr), l1, l2] (st) = ab_res scr 66 d M 19 [some (.ref xr), l1, l2] (.ref xr :: st) := ab_o_aload_n (ab_dc hc66 dX9_readNumber_18) rfl
theorem q66_19 {v0 : Nat} (hb : (ab_rc ab_L0 v0 = some 9) = True) : ab_res scr 66 4 M 19 [l0, l1, l2] ([.ref v0]) = (ab_ms scr 67 [.ref v0] M).bind fun o => ab_res scr 66 4 o.1 22 [l0, l1, l2] (ab_pr o.2 []) := ab_o_virtual (ab_dc hc66 dX9_readNumber_19) hk66 lk_ca_9_72 hm67 (Nat.le_of_ble_eq_true rfl) rfl rfl rfl (of_eq_true hb) rfl rfl
theorem q66_22 {v0 : Int32} (hv : (narrow .boolean (.int v0) = .int v0) = True) : ab_res scr 66 d M 22 [l0, l1, l2] ([.int v0]) = some (M, some (.int v0)) := ab_o_ireturn (ab_dc hc66 dX9_readNumber_22) hr66 (of_eq_true hv)
theorem q66_23 {xr : Nat} : ab_res scr 66 d M 23 [some (.ref xr), l1, l2] (st) = ab_res scr 66 d M 24 [some (.ref xr), l1, l2] (.ref xr :: st) := ab_o_aload_n (ab_dc hc66 dX9_readNumber_23) rfl
theorem q66_24 {v0 : Nat} : ab_res scr 66 d M 24 [l0, l1, l2] (.ref v0 :: st) = (ab_gF ab_L0 M v0 9 1).bind fun v => ab_res scr 66 d M 27 [l0, l1, l2] (v :: st) := ab_o_getfield (ab_dc hc66 dX9_readNumber_24) hk66 lk_fl_9_29
theorem q66_27 {v0 : Nat} : ab_res scr 66 d M 27 [l0, l1, l2] (.ref v0 :: st) = (ab_gF ab_L0 M v0 10 5).bind fun v => ab_res scr 66 d M 30 [l0, l1, l2] (v :: st) := ab_o_getfield (ab_dc hc66 dX9_readNumber_27) hk66 lk_fl_9_97
theorem q66_30 {x : Int32} : ab_res scr 66 d M 30 [l0, some (.int x), l2] (st) = ab_res scr 66 d M 31 [l0, some (.int x), l2] (.int x :: st) := ab_o_iload_n (ab_dc hc66 dX9_readNumber_30) rfl
theorem q66_31 {v0 : Int32} {v1 : Int32} : ab_res scr 66 d M 31 [l0, l1, l2] (.int v0 :: .int v1 :: st) = if v1 < v0 then ab_res scr 66 d M 45 [l0, l1, l2] (st) else ab_res scr 66 d M 34 [l0, l1, l2] (st) := ab_o_br2 (off := 14) (ab_dc hc66 dX9_readNumber_31) (by decide) rfl rfl
theorem q66_34 {xr : Nat} : ab_res scr 66 d M 34 [some (.ref xr), l1, l2] (st) = ab_res scr 66 d M 35 [some (.ref xr), l1, l2] (.ref xr :: st) := ab_o_aload_n (ab_dc hc66 dX9_readNumber_34) rfl
theorem q66_35 {v0 : Nat} : ab_res scr 66 d M 35 [l0, l1, l2] (.ref v0 :: st) = (ab_gF ab_L0 M v0 9 1).bind fun v => ab_res scr 66 d M 38 [l0, l1, l2] (v :: st) := ab_o_getfield (ab_dc hc66 dX9_readNumber_35) hk66 lk_fl_9_29
theorem q66_38 {v0 : Nat} : ab_res scr 66 d M 38 [l0, l1, l2] (.ref v0 :: st) = (ab_gF ab_L0 M v0 10 5).bind fun v => ab_res scr 66 d M 41 [l0, l1, l2] (v :: st) := ab_o_getfield (ab_dc hc66 dX9_readNumber_38) hk66 lk_fl_9_97
theorem q66_41 {x : Int32} : ab_res scr 66 d M 41 [l0, l1, some (.int x)] (st) = ab_res scr 66 d M 42 [l0, l1, some (.int x)] (.int x :: st) := ab_o_iload_n (ab_dc hc66 dX9_readNumber_41) rfl
theorem q66_42 {v0 : Int32} {v1 : Int32} : ab_res scr 66 d M 42 [l0, l1, l2] (.int v0 :: .int v1 :: st) = if v1 ≤ v0 then ab_res scr 66 d M 53 [l0, l1, l2] (st) else ab_res scr 66 d M 45 [l0, l1, l2] (st) := ab_o_br2 (off := 11) (ab_dc hc66 dX9_readNumber_42) (by decide) rfl rfl
theorem q66_45 {xr : Nat} : ab_res scr 66 d M 45 [some (.ref xr), l1, l2] (st) = ab_res scr 66 d M 46 [some (.ref xr), l1, l2] (.ref xr :: st) := ab_o_aload_n (ab_dc hc66 dX9_readNumber_45) rfl
theorem q66_46 : ab_res scr 66 d M 46 [l0, l1, l2] (st) = ab_res scr 66 d M 47 [l0, l1, l2] (.int 3 :: st) := (ab_o_iconst (ab_dc hc66 dX9_readNumber_46)).trans (by rw [ki_iconst_3])
theorem q66_47 {v0 : Int32} {v1 : Nat} (hb : (ab_rc ab_L0 v1 = some 9) = True) : ab_res scr 66 4 M 47 [l0, l1, l2] ([.int v0, .ref v1]) = (ab_ms scr 68 [.ref v1, .int v0] M).bind fun o => ab_res scr 66 4 o.1 50 [l0, l1, l2] (ab_pr o.2 []) := ab_o_virtual (ab_dc hc66 dX9_readNumber_47) hk66 lk_ca_9_75 hm68 (Nat.le_of_ble_eq_true rfl) rfl rfl rfl (of_eq_true hb) rfl rfl
theorem q66_50 {v0 : Int32} : ab_res scr 66 d M 50 [l0, l1, l2] (.int v0 :: st) = if v0 = 0 then ab_res scr 66 d M 57 [l0, l1, l2] (st) else ab_res scr 66 d M 53 [l0, l1, l2] (st) := ab_o_br2 (off := 7) (ab_dc hc66 dX9_readNumber_50) (by decide) rfl rfl
theorem q66_53 : ab_res scr 66 d M 53 [l0, l1, l2] (st) = ab_res scr 66 d M 54 [l0, l1, l2] (.int 1 :: st) := (ab_o_iconst (ab_dc hc66 dX9_readNumber_53)).trans (by rw [ki_iconst_1])
theorem q66_54 : ab_res scr 66 d M 54 [l0, l1, l2] (st) = ab_res scr 66 d M 58 [l0, l1, l2] (st) := ab_o_goto (ab_dc hc66 dX9_readNumber_54) (by decide)
theorem q66_57 : ab_res scr 66 d M 57 [l0, l1, l2] (st) = ab_res scr 66 d M 58 [l0, l1, l2] (.int 0 :: st) := (ab_o_iconst (ab_dc hc66 dX9_readNumber_57)).trans (by rw [ki_iconst_0])
theorem q66_58 {v0 : Int32} (hv : (narrow .boolean (.int v0) = .int v0) = True) : ab_res scr 66 d M 58 [l0, l1, l2] ([.int v0]) = some (M, some (.int v0)) := ab_o_ireturn (ab_dc hc66 dX9_readNumber_58) hr66 (of_eq_true hv)
end Q66
theorem hc67 : ab_code 67 = cX9_misplaced := rfl
theorem hn67 : ab_nL 67 = 1 := rfl
theorem hk67 : ab_ky 67 = 9 := rfl
theorem hr67 : ab_ret 67 = some .boolean := rfl
section Q67
variable {scr : Option (List Int32)} {d : Nat} {M : ab_M} {st : List Value} {l0 : Option Value}
theorem q67_0 {xr : Nat} : ab_res scr 67 d M 0 [some (.ref xr)] (st) = ab_res scr 67 d M 1 [some (.ref xr)] (.ref xr :: st) := ab_o_aload_n (ab_dc hc67 dX9_misplaced_0) rfl
theorem q67_1 {xr : Nat} : ab_res scr 67 d M 1 [some (.ref xr)] (st) = ab_res scr 67 d M 2 [some (.ref xr)] (.ref xr :: st) := ab_o_aload_n (ab_dc hc67 dX9_misplaced_1) rfl
theorem q67_2 {v0 : Nat} : ab_res scr 67 d M 2 [l0] (.ref v0 :: st) = (ab_gF ab_L0 M v0 9 1).bind fun v => ab_res scr 67 d M 5 [l0] (v :: st) := ab_o_getfield (ab_dc hc67 dX9_misplaced_2) hk67 lk_fl_9_29
theorem q67_5 {v0 : Nat} : ab_res scr 67 d M 5 [l0] (.ref v0 :: st) = (ab_gF ab_L0 M v0 10 3).bind fun v => ab_res scr 67 d M 8 [l0] (v :: st) := ab_o_getfield (ab_dc hc67 dX9_misplaced_5) hk67 lk_fl_9_44
theorem q67_8 : ab_res scr 67 d M 8 [l0] (st) = ab_res scr 67 d M 9 [l0] (.int 4 :: st) := (ab_o_iconst (ab_dc hc67 dX9_misplaced_8)).trans (by rw [ki_iconst_4])
theorem q67_9 {v0 : Int32} {v1 : Int32} : ab_res scr 67 d M 9 [l0] (.int v0 :: .int v1 :: st) = if ¬ v1 = v0 then ab_res scr 67 d M 16 [l0] (st) else ab_res scr 67 d M 12 [l0] (st) := ab_o_br2 (off := 7) (ab_dc hc67 dX9_misplaced_9) (by decide) rfl rfl
theorem q67_12 : ab_res scr 67 d M 12 [l0] (st) = ab_res scr 67 d M 13 [l0] (.int 1 :: st) := (ab_o_iconst (ab_dc hc67 dX9_misplaced_12)).trans (by rw [ki_iconst_1])
theorem q67_13 : ab_res scr 67 d M 13 [l0] (st) = ab_res scr 67 d M 17 [l0] (st) := ab_o_goto (ab_dc hc67 dX9_misplaced_13) (by decide)
theorem q67_16 : ab_res scr 67 d M 16 [l0] (st) = ab_res scr 67 d M 17 [l0] (.int 2 :: st) := (ab_o_iconst (ab_dc hc67 dX9_misplaced_16)).trans (by rw [ki_iconst_2])
theorem q67_17 {v0 : Int32} {v1 : Nat} (hb : (ab_rc ab_L0 v1 = some 9) = True) : ab_res scr 67 2 M 17 [l0] ([.int v0, .ref v1]) = (ab_ms scr 68 [.ref v1, .int v0] M).bind fun o => ab_res scr 67 2 o.1 20 [l0] (ab_pr o.2 []) := ab_o_virtual (ab_dc hc67 dX9_misplaced_17) hk67 lk_ca_9_75 hm68 (Nat.le_of_ble_eq_true rfl) rfl rfl rfl (of_eq_true hb) rfl rfl
theorem q67_20 {v0 : Int32} (hv : (narrow .boolean (.int v0) = .int v0) = True) : ab_res scr 67 d M 20 [l0] ([.int v0]) = some (M, some (.int v0)) := ab_o_ireturn (ab_dc hc67 dX9_misplaced_20) hr67 (of_eq_true hv)
end Q67
theorem hc68 : ab_code 68 = cX9_refuse := rfl
theorem hn68 : ab_nL 68 = 2 := rfl
theorem hk68 : ab_ky 68 = 9 := rfl
theorem hr68 : ab_ret 68 = some .boolean := rfl
section Q68
variable {scr : Option (List Int32)} {d : Nat} {M : ab_M} {st : List Value} {l0 l1 : Option Value}
theorem q68_0 {xr : Nat} : ab_res scr 68 d M 0 [some (.ref xr), l1] (st) = ab_res scr 68 d M 1 [some (.ref xr), l1] (.ref xr :: st) := ab_o_aload_n (ab_dc hc68 dX9_refuse_0) rfl
theorem q68_1 {x : Int32} : ab_res scr 68 d M 1 [l0, some (.int x)] (st) = ab_res scr 68 d M 2 [l0, some (.int x)] (.int x :: st) := ab_o_iload_n (ab_dc hc68 dX9_refuse_1) rfl
theorem q68_2 {v0 : Int32} {v1 : Nat} (hp : (ab_pt v1 9 2 v0 = true) = True) : ab_res scr 68 d M 2 [l0, l1] (.int v0 :: .ref v1 :: st) = ab_res scr 68 d (ab_up M v1 2 v0) 5 [l0, l1] (st) := ab_o_putfield (ab_dc hc68 dX9_refuse_2) hk68 lk_fl_9_18 (of_eq_true hp)
theorem q68_5 {xr : Nat} : ab_res scr 68 d M 5 [some (.ref xr), l1] (st) = ab_res scr 68 d M 6 [some (.ref xr), l1] (.ref xr :: st) := ab_o_aload_n (ab_dc hc68 dX9_refuse_5) rfl
theorem q68_6 {xr : Nat} : ab_res scr 68 d M 6 [some (.ref xr), l1] (st) = ab_res scr 68 d M 7 [some (.ref xr), l1] (.ref xr :: st) := ab_o_aload_n (ab_dc hc68 dX9_refuse_6) rfl
theorem q68_7 {v0 : Nat} : ab_res scr 68 d M 7 [l0, l1] (.ref v0 :: st) = (ab_gF ab_L0 M v0 9 1).bind fun v => ab_res scr 68 d M 10 [l0, l1] (v :: st) := ab_o_getfield (ab_dc hc68 dX9_refuse_7) hk68 lk_fl_9_29
theorem q68_10 {v0 : Nat} : ab_res scr 68 d M 10 [l0, l1] (.ref v0 :: st) = (ab_gF ab_L0 M v0 10 4).bind fun v => ab_res scr 68 d M 13 [l0, l1] (v :: st) := ab_o_getfield (ab_dc hc68 dX9_refuse_10) hk68 lk_fl_9_111
theorem q68_13 {v0 : Int32} {v1 : Nat} (hp : (ab_pt v1 9 3 v0 = true) = True) : ab_res scr 68 d M 13 [l0, l1] (.int v0 :: .ref v1 :: st) = ab_res scr 68 d (ab_up M v1 3 v0) 16 [l0, l1] (st) := ab_o_putfield (ab_dc hc68 dX9_refuse_13) hk68 lk_fl_9_22 (of_eq_true hp)
theorem q68_16 : ab_res scr 68 d M 16 [l0, l1] (st) = ab_res scr 68 d M 17 [l0, l1] (.int 0 :: st) := (ab_o_iconst (ab_dc hc68 dX9_refuse_16)).trans (by rw [ki_iconst_0])
theorem q68_17 {v0 : Int32} (hv : (narrow .boolean (.int v0) = .int v0) = True) : ab_res scr 68 d M 17 [l0, l1] ([.int v0]) = some (M, some (.int v0)) := ab_o_ireturn (ab_dc hc68 dX9_refuse_17) hr68 (of_eq_true hv)
end Q68
theorem hc70 : ab_code 70 = cX10_cut := rfl
theorem hn70 : ab_nL 70 = 2 := rfl
theorem hk70 : ab_ky 70 = 10 := rfl
theorem hr70 : ab_ret 70 = none := rfl
section Q70
variable {scr : Option (List Int32)} {d : Nat} {M : ab_M} {st : List Value} {l0 l1 : Option Value}
theorem q70_0 {xr : Nat} : ab_res scr 70 d M 0 [some (.ref xr), l1] (st) = ab_res scr 70 d M 1 [some (.ref xr), l1] (.ref xr :: st) := ab_o_aload_n (ab_dc hc70 dX10_cut_0) rfl
theorem q70_1 {x : Int32} : ab_res scr 70 d M 1 [l0, some (.int x)] (st) = ab_res scr 70 d M 2 [l0, some (.int x)] (.int x :: st) := ab_o_iload_n (ab_dc hc70 dX10_cut_1) rfl
theorem q70_2 {v0 : Int32} {v1 : Nat} (hp : (ab_pt v1 10 1 v0 = true) = True) : ab_res scr 70 d M 2 [l0, l1] (.int v0 :: .ref v1 :: st) = ab_res scr 70 d (ab_up M v1 1 v0) 5 [l0, l1] (st) := ab_o_putfield (ab_dc hc70 dX10_cut_2) hk70 lk_fl_10_15 (of_eq_true hp)
theorem q70_5 : ab_res scr 70 d M 5 [l0, l1] ([]) = some (M, none) := ab_o_return (ab_dc hc70 dX10_cut_5) hr70
end Q70
theorem hc71 : ab_code 71 = cX10_append := rfl
theorem hn71 : ab_nL 71 = 4 := rfl
theorem hk71 : ab_ky 71 = 10 := rfl
theorem hr71 : ab_ret 71 = some .boolean := rfl
section Q71
variable {scr : Option (List Int32)} {d : Nat} {M : ab_M} {st : List Value} {l0 l1 l2 l3 : Option Value}
theorem q71_0 {xr : Nat} : ab_res scr 71 d M 0 [some (.ref xr), l1, l2, l3] (st) = ab_res scr 71 d M 1 [some (.ref xr), l1, l2, l3] (.ref xr :: st) := ab_o_aload_n (ab_dc hc71 dX10_append_0) rfl
theorem q71_1 {v0 : Nat} : ab_res scr 71 d M 1 [l0, l1, l2, l3] (.ref v0 :: st) = (ab_gF ab_L0 M v0 10 1).bind fun v => ab_res scr 71 d M 4 [l0, l1, l2, l3] (v :: st) := ab_o_getfield (ab_dc hc71 dX10_append_1) hk71 lk_fl_10_15
theorem q71_4 : ab_res scr 71 d M 4 [l0, l1, l2, l3] (st) = ab_res scr 71 d M 7 [l0, l1, l2, l3] (.int 312 :: st) := (ab_o_sipush (ab_dc hc71 dX10_append_4)).trans (by rw [ki_sipush_312])
theorem q71_7 {v0 : Int32} {v1 : Int32} : ab_res scr 71 d M 7 [l0, l1, l2, l3] (.int v0 :: .int v1 :: st) = if v1 ≤ v0 then ab_res scr 71 d M 12 [l0, l1, l2, l3] (st) else ab_res scr 71 d M 10 [l0, l1, l2, l3] (st) := ab_o_br2 (off := 5) (ab_dc hc71 dX10_append_7) (by decide) rfl rfl
theorem q71_10 : ab_res scr 71 d M 10 [l0, l1, l2, l3] (st) = ab_res scr 71 d M 11 [l0, l1, l2, l3] (.int 0 :: st) := (ab_o_iconst (ab_dc hc71 dX10_append_10)).trans (by rw [ki_iconst_0])
theorem q71_11 {v0 : Int32} (hv : (narrow .boolean (.int v0) = .int v0) = True) : ab_res scr 71 d M 11 [l0, l1, l2, l3] ([.int v0]) = some (M, some (.int v0)) := ab_o_ireturn (ab_dc hc71 dX10_append_11) hr71 (of_eq_true hv)
theorem q71_12 : ab_res scr 71 d M 12 [l0, l1, l2, l3] (st) = ab_res scr 71 d M 14 [l0, l1, l2, l3] (.int 56 :: st) := (ab_o_bipush (ab_dc hc71 dX10_append_12)).trans (by rw [ki_bipush_56])
theorem q71_14 {v0 : Int32} : ab_res scr 71 d M 14 [l0, l1, l2, l3] (.int v0 :: st) = ab_res scr 71 d M 15 [l0, l1, ab_nl l2, some (.int v0)] (st) := (ab_o_st1 (k := 3) (ab_dc hc71 dX10_append_14) (Or.inr (Or.inr (Or.inl ⟨3, rfl, rfl, rfl, ⟨_, rfl⟩⟩))) hn71 (by decide)).trans (ab_kl1 [l0, l1] _ l2 rfl rfl)
theorem q71_15 {x : Int32} : ab_res scr 71 d M 15 [l0, l1, l2, some (.int x)] (st) = ab_res scr 71 d M 16 [l0, l1, l2, some (.int x)] (.int x :: st) := ab_o_iload_n (ab_dc hc71 dX10_append_15) rfl
theorem q71_16 {v0 : Int32} : ab_res scr 71 d M 16 [l0, l1, l2, l3] (.int v0 :: st) = if v0 < 0 then ab_res scr 71 d M 49 [l0, l1, l2, l3] (st) else ab_res scr 71 d M 19 [l0, l1, l2, l3] (st) := ab_o_br2 (off := 33) (ab_dc hc71 dX10_append_16) (by decide) rfl rfl
theorem q71_19 {xr : Nat} : ab_res scr 71 d M 19 [some (.ref xr), l1, l2, l3] (st) = ab_res scr 71 d M 20 [some (.ref xr), l1, l2, l3] (.ref xr :: st) := ab_o_aload_n (ab_dc hc71 dX10_append_19) rfl
theorem q71_20 {v0 : Nat} : ab_res scr 71 d M 20 [l0, l1, l2, l3] (.ref v0 :: st) = (ab_gF ab_L0 M v0 10 0).bind fun v => ab_res scr 71 d M 23 [l0, l1, l2, l3] (v :: st) := ab_o_getfield (ab_dc hc71 dX10_append_20) hk71 lk_fl_10_9
theorem q71_23 {xr : Nat} : ab_res scr 71 d M 23 [some (.ref xr), l1, l2, l3] (st) = ab_res scr 71 d M 24 [some (.ref xr), l1, l2, l3] (.ref xr :: st) := ab_o_aload_n (ab_dc hc71 dX10_append_23) rfl
theorem q71_24 {v0 : Nat} : ab_res scr 71 d M 24 [l0, l1, l2, l3] (.ref v0 :: st) = (ab_gF ab_L0 M v0 10 1).bind fun v => ab_res scr 71 d M 27 [l0, l1, l2, l3] (v :: st) := ab_o_getfield (ab_dc hc71 dX10_append_24) hk71 lk_fl_10_15
theorem q71_27 {xj : Int64} : ab_res scr 71 d M 27 [l0, some (.long xj), l2, l3] (st) = ab_res scr 71 d M 28 [l0, some (.long xj), l2, l3] (.long xj :: st) := ab_o_lload_n (ab_dc hc71 dX10_append_27) rfl
theorem q71_28 {x : Int32} : ab_res scr 71 d M 28 [l0, l1, l2, some (.int x)] (st) = ab_res scr 71 d M 29 [l0, l1, l2, some (.int x)] (.int x :: st) := ab_o_iload_n (ab_dc hc71 dX10_append_28) rfl
theorem q71_29 {v0 : Int32} {v1 : Int64} : ab_res scr 71 d M 29 [l0, l1, l2, l3] (.int v0 :: .long v1 :: st) = ab_res scr 71 d M 30 [l0, l1, l2, l3] (.long ((v1.toUInt64 >>> (v0.toInt64.toUInt64 &&& Int64.toUInt64 63)).toInt64) :: st) := ab_xg (ab_dc hc71 dX10_append_29) rfl rfl
theorem q71_30 {v0 : Int64} : ab_res scr 71 d M 30 [l0, l1, l2, l3] (.long v0 :: st) = ab_res scr 71 d M 31 [l0, l1, l2, l3] (.int v0.toInt32 :: st) := ab_xg (ab_dc hc71 dX10_append_30) rfl rfl
theorem q71_31 {v0 : Int32} : ab_res scr 71 d M 31 [l0, l1, l2, l3] (.int v0 :: st) = ab_res scr 71 d M 32 [l0, l1, l2, l3] (.int v0.toInt8.toInt32 :: st) := ab_xg (ab_dc hc71 dX10_append_31) rfl rfl
theorem q71_32 {v0 : Int32} {v1 : Int32} {v2 : Nat} {ty : FieldType} (hb : (ty = .byte ∧ ab_si v2 .byte v1 = true) ∨ (ty = .boolean ∧ ab_ar ab_L0 v2 .byte = none ∧ ab_si v2 .boolean v1 = true)) : ab_res scr 71 d M 32 [l0, l1, l2, l3] (.int v0 :: .int v1 :: .ref v2 :: st) = ab_res scr 71 d (ab_up M v2 v1.toNatClampNeg (vp_nar ty v0)) 33 [l0, l1, l2, l3] (st) := ab_o_bastore (ab_dc hc71 dX10_append_32) hb
theorem q71_33 {xr : Nat} : ab_res scr 71 d M 33 [some (.ref xr), l1, l2, l3] (st) = ab_res scr 71 d M 34 [some (.ref xr), l1, l2, l3] (.ref xr :: st) := ab_o_aload_n (ab_dc hc71 dX10_append_33) rfl
theorem q71_34 {v0 : Nat} : ab_res scr 71 d M 34 [l0, l1, l2, l3] (.ref v0 :: st) = ab_res scr 71 d M 35 [l0, l1, l2, l3] (.ref v0 :: .ref v0 :: st) := ab_xg (ab_dc hc71 dX10_append_34) rfl rfl
theorem q71_35 {v0 : Nat} : ab_res scr 71 d M 35 [l0, l1, l2, l3] (.ref v0 :: st) = (ab_gF ab_L0 M v0 10 1).bind fun v => ab_res scr 71 d M 38 [l0, l1, l2, l3] (v :: st) := ab_o_getfield (ab_dc hc71 dX10_append_35) hk71 lk_fl_10_15
theorem q71_38 : ab_res scr 71 d M 38 [l0, l1, l2, l3] (st) = ab_res scr 71 d M 39 [l0, l1, l2, l3] (.int 1 :: st) := (ab_o_iconst (ab_dc hc71 dX10_append_38)).trans (by rw [ki_iconst_1])
theorem q71_39 {v0 : Int32} {v1 : Int32} : ab_res scr 71 d M 39 [l0, l1, l2, l3] (.int v0 :: .int v1 :: st) = ab_res scr 71 d M 40 [l0, l1, l2, l3] (.int (v1 + v0) :: st) := ab_xg (ab_dc hc71 dX10_append_39) rfl rfl
theorem q71_40 {v0 : Int32} {v1 : Nat} (hp : (ab_pt v1 10 1 v0 = true) = True) : ab_res scr 71 d M 40 [l0, l1, l2, l3] (.int v0 :: .ref v1 :: st) = ab_res scr 71 d (ab_up M v1 1 v0) 43 [l0, l1, l2, l3] (st) := ab_o_putfield (ab_dc hc71 dX10_append_40) hk71 lk_fl_10_15 (of_eq_true hp)
theorem q71_43 {x : Int32} : ab_res scr 71 d M 43 [l0, l1, l2, some (.int x)] (st) = ab_res scr 71 d M 46 [l0, l1, ab_nl l2, some (.int (x + (-8)))] (st) := (ab_o_iinc (k := 3) (ab_dc hc71 dX10_append_43) hn71 (by decide) rfl).trans (by rw [ki_iconst_m8]; exact ab_kl1 [l0, l1] _ l2 rfl rfl)
theorem q71_46 : ab_res scr 71 d M 46 [l0, l1, l2, l3] (st) = ab_res scr 71 d M 15 [l0, l1, l2, l3] (st) := ab_o_goto (ab_dc hc71 dX10_append_46) (by decide)
theorem q71_49 : ab_res scr 71 d M 49 [l0, l1, l2, l3] (st) = ab_res scr 71 d M 50 [l0, l1, l2, l3] (.int 1 :: st) := (ab_o_iconst (ab_dc hc71 dX10_append_49)).trans (by rw [ki_iconst_1])
theorem q71_50 {v0 : Int32} (hv : (narrow .boolean (.int v0) = .int v0) = True) : ab_res scr 71 d M 50 [l0, l1, l2, l3] ([.int v0]) = some (M, some (.int v0)) := ab_o_ireturn (ab_dc hc71 dX10_append_50) hr71 (of_eq_true hv)
end Q71
theorem hc72 : ab_code 72 = cX10_takeToken := rfl
theorem hn72 : ab_nL 72 = 1 := rfl
theorem hk72 : ab_ky 72 = 10 := rfl
theorem hr72 : ab_ret 72 = none := rfl
section Q72
variable {scr : Option (List Int32)} {d : Nat} {M : ab_M} {st : List Value} {l0 : Option Value}
theorem q72_0 {xr : Nat} : ab_res scr 72 d M 0 [some (.ref xr)] (st) = ab_res scr 72 d M 1 [some (.ref xr)] (.ref xr :: st) := ab_o_aload_n (ab_dc hc72 dX10_takeToken_0) rfl
theorem q72_1 {v0 : Nat} : ab_res scr 72 d M 1 [l0] (.ref v0 :: st) = (ab_gF ab_L0 M v0 10 2).bind fun v => ab_res scr 72 d M 4 [l0] (v :: st) := ab_o_getfield (ab_dc hc72 dX10_takeToken_1) hk72 lk_fl_10_19
theorem q72_4 {xr : Nat} : ab_res scr 72 d M 4 [some (.ref xr)] (st) = ab_res scr 72 d M 5 [some (.ref xr)] (.ref xr :: st) := ab_o_aload_n (ab_dc hc72 dX10_takeToken_4) rfl
theorem q72_5 {v0 : Nat} : ab_res scr 72 d M 5 [l0] (.ref v0 :: st) = (ab_gF ab_L0 M v0 10 1).bind fun v => ab_res scr 72 d M 8 [l0] (v :: st) := ab_o_getfield (ab_dc hc72 dX10_takeToken_5) hk72 lk_fl_10_15
theorem q72_8 {v0 : Int32} {v1 : Int32} : ab_res scr 72 d M 8 [l0] (.int v0 :: .int v1 :: st) = if v0 ≤ v1 then ab_res scr 72 d M 38 [l0] (st) else ab_res scr 72 d M 11 [l0] (st) := ab_o_br2 (off := 30) (ab_dc hc72 dX10_takeToken_8) (by decide) rfl rfl
theorem q72_11 {xr : Nat} : ab_res scr 72 d M 11 [some (.ref xr)] (st) = ab_res scr 72 d M 12 [some (.ref xr)] (.ref xr :: st) := ab_o_aload_n (ab_dc hc72 dX10_takeToken_11) rfl
theorem q72_12 {v0 : Nat} : ab_res scr 72 d M 12 [l0] (.ref v0 :: st) = (ab_gF ab_L0 M v0 10 0).bind fun v => ab_res scr 72 d M 15 [l0] (v :: st) := ab_o_getfield (ab_dc hc72 dX10_takeToken_12) hk72 lk_fl_10_9
theorem q72_15 {xr : Nat} : ab_res scr 72 d M 15 [some (.ref xr)] (st) = ab_res scr 72 d M 16 [some (.ref xr)] (.ref xr :: st) := ab_o_aload_n (ab_dc hc72 dX10_takeToken_15) rfl
theorem q72_16 {v0 : Nat} : ab_res scr 72 d M 16 [l0] (.ref v0 :: st) = (ab_gF ab_L0 M v0 10 2).bind fun v => ab_res scr 72 d M 19 [l0] (v :: st) := ab_o_getfield (ab_dc hc72 dX10_takeToken_16) hk72 lk_fl_10_19
theorem q72_19 {v0 : Int32} {v1 : Nat} : ab_res scr 72 d M 19 [l0] (.int v0 :: .ref v1 :: st) = (ab_bl scr M v1 v0).bind fun v => ab_res scr 72 d M 20 [l0] (.int v :: st) := ab_o_baload (ab_dc hc72 dX10_takeToken_19)
theorem q72_20 : ab_res scr 72 d M 20 [l0] (st) = ab_res scr 72 d M 22 [l0] (.int 32 :: st) := (ab_o_bipush (ab_dc hc72 dX10_takeToken_20)).trans (by rw [ki_bipush_32])
theorem q72_22 {v0 : Int32} {v1 : Int32} : ab_res scr 72 d M 22 [l0] (.int v0 :: .int v1 :: st) = if ¬ v1 = v0 then ab_res scr 72 d M 38 [l0] (st) else ab_res scr 72 d M 25 [l0] (st) := ab_o_br2 (off := 16) (ab_dc hc72 dX10_takeToken_22) (by decide) rfl rfl
theorem q72_25 {xr : Nat} : ab_res scr 72 d M 25 [some (.ref xr)] (st) = ab_res scr 72 d M 26 [some (.ref xr)] (.ref xr :: st) := ab_o_aload_n (ab_dc hc72 dX10_takeToken_25) rfl
theorem q72_26 {v0 : Nat} : ab_res scr 72 d M 26 [l0] (.ref v0 :: st) = ab_res scr 72 d M 27 [l0] (.ref v0 :: .ref v0 :: st) := ab_xg (ab_dc hc72 dX10_takeToken_26) rfl rfl
theorem q72_27 {v0 : Nat} : ab_res scr 72 d M 27 [l0] (.ref v0 :: st) = (ab_gF ab_L0 M v0 10 2).bind fun v => ab_res scr 72 d M 30 [l0] (v :: st) := ab_o_getfield (ab_dc hc72 dX10_takeToken_27) hk72 lk_fl_10_19
theorem q72_30 : ab_res scr 72 d M 30 [l0] (st) = ab_res scr 72 d M 31 [l0] (.int 1 :: st) := (ab_o_iconst (ab_dc hc72 dX10_takeToken_30)).trans (by rw [ki_iconst_1])
theorem q72_31 {v0 : Int32} {v1 : Int32} : ab_res scr 72 d M 31 [l0] (.int v0 :: .int v1 :: st) = ab_res scr 72 d M 32 [l0] (.int (v1 + v0) :: st) := ab_xg (ab_dc hc72 dX10_takeToken_31) rfl rfl
theorem q72_32 {v0 : Int32} {v1 : Nat} (hp : (ab_pt v1 10 2 v0 = true) = True) : ab_res scr 72 d M 32 [l0] (.int v0 :: .ref v1 :: st) = ab_res scr 72 d (ab_up M v1 2 v0) 35 [l0] (st) := ab_o_putfield (ab_dc hc72 dX10_takeToken_32) hk72 lk_fl_10_19 (of_eq_true hp)
theorem q72_35 : ab_res scr 72 d M 35 [l0] (st) = ab_res scr 72 d M 0 [l0] (st) := ab_o_goto (ab_dc hc72 dX10_takeToken_35) (by decide)
theorem q72_38 {xr : Nat} : ab_res scr 72 d M 38 [some (.ref xr)] (st) = ab_res scr 72 d M 39 [some (.ref xr)] (.ref xr :: st) := ab_o_aload_n (ab_dc hc72 dX10_takeToken_38) rfl
theorem q72_39 {xr : Nat} : ab_res scr 72 d M 39 [some (.ref xr)] (st) = ab_res scr 72 d M 40 [some (.ref xr)] (.ref xr :: st) := ab_o_aload_n (ab_dc hc72 dX10_takeToken_39) rfl
theorem q72_40 {v0 : Nat} : ab_res scr 72 d M 40 [l0] (.ref v0 :: st) = (ab_gF ab_L0 M v0 10 2).bind fun v => ab_res scr 72 d M 43 [l0] (v :: st) := ab_o_getfield (ab_dc hc72 dX10_takeToken_40) hk72 lk_fl_10_19
theorem q72_43 {v0 : Int32} {v1 : Nat} (hp : (ab_pt v1 10 4 v0 = true) = True) : ab_res scr 72 d M 43 [l0] (.int v0 :: .ref v1 :: st) = ab_res scr 72 d (ab_up M v1 4 v0) 46 [l0] (st) := ab_o_putfield (ab_dc hc72 dX10_takeToken_43) hk72 lk_fl_10_25 (of_eq_true hp)
theorem q72_46 {xr : Nat} : ab_res scr 72 d M 46 [some (.ref xr)] (st) = ab_res scr 72 d M 47 [some (.ref xr)] (.ref xr :: st) := ab_o_aload_n (ab_dc hc72 dX10_takeToken_46) rfl
theorem q72_47 {v0 : Nat} : ab_res scr 72 d M 47 [l0] (.ref v0 :: st) = (ab_gF ab_L0 M v0 10 2).bind fun v => ab_res scr 72 d M 50 [l0] (v :: st) := ab_o_getfield (ab_dc hc72 dX10_takeToken_47) hk72 lk_fl_10_19
theorem q72_50 {xr : Nat} : ab_res scr 72 d M 50 [some (.ref xr)] (st) = ab_res scr 72 d M 51 [some (.ref xr)] (.ref xr :: st) := ab_o_aload_n (ab_dc hc72 dX10_takeToken_50) rfl
theorem q72_51 {v0 : Nat} : ab_res scr 72 d M 51 [l0] (.ref v0 :: st) = (ab_gF ab_L0 M v0 10 1).bind fun v => ab_res scr 72 d M 54 [l0] (v :: st) := ab_o_getfield (ab_dc hc72 dX10_takeToken_51) hk72 lk_fl_10_15
theorem q72_54 {v0 : Int32} {v1 : Int32} : ab_res scr 72 d M 54 [l0] (.int v0 :: .int v1 :: st) = if v1 < v0 then ab_res scr 72 d M 65 [l0] (st) else ab_res scr 72 d M 57 [l0] (st) := ab_o_br2 (off := 11) (ab_dc hc72 dX10_takeToken_54) (by decide) rfl rfl
theorem q72_57 {xr : Nat} : ab_res scr 72 d M 57 [some (.ref xr)] (st) = ab_res scr 72 d M 58 [some (.ref xr)] (.ref xr :: st) := ab_o_aload_n (ab_dc hc72 dX10_takeToken_57) rfl
theorem q72_58 : ab_res scr 72 d M 58 [l0] (st) = ab_res scr 72 d M 59 [l0] (.int 0 :: st) := (ab_o_iconst (ab_dc hc72 dX10_takeToken_58)).trans (by rw [ki_iconst_0])
theorem q72_59 {v0 : Int32} {v1 : Nat} (hp : (ab_pt v1 10 3 v0 = true) = True) : ab_res scr 72 d M 59 [l0] (.int v0 :: .ref v1 :: st) = ab_res scr 72 d (ab_up M v1 3 v0) 62 [l0] (st) := ab_o_putfield (ab_dc hc72 dX10_takeToken_59) hk72 lk_fl_10_22 (of_eq_true hp)
theorem q72_62 : ab_res scr 72 d M 62 [l0] (st) = ab_res scr 72 d M 142 [l0] (st) := ab_o_goto (ab_dc hc72 dX10_takeToken_62) (by decide)
theorem q72_65 {xr : Nat} : ab_res scr 72 d M 65 [some (.ref xr)] (st) = ab_res scr 72 d M 66 [some (.ref xr)] (.ref xr :: st) := ab_o_aload_n (ab_dc hc72 dX10_takeToken_65) rfl
theorem q72_66 {v0 : Nat} : ab_res scr 72 d M 66 [l0] (.ref v0 :: st) = (ab_gF ab_L0 M v0 10 0).bind fun v => ab_res scr 72 d M 69 [l0] (v :: st) := ab_o_getfield (ab_dc hc72 dX10_takeToken_66) hk72 lk_fl_10_9
theorem q72_69 {xr : Nat} : ab_res scr 72 d M 69 [some (.ref xr)] (st) = ab_res scr 72 d M 70 [some (.ref xr)] (.ref xr :: st) := ab_o_aload_n (ab_dc hc72 dX10_takeToken_69) rfl
theorem q72_70 {v0 : Nat} : ab_res scr 72 d M 70 [l0] (.ref v0 :: st) = (ab_gF ab_L0 M v0 10 2).bind fun v => ab_res scr 72 d M 73 [l0] (v :: st) := ab_o_getfield (ab_dc hc72 dX10_takeToken_70) hk72 lk_fl_10_19
theorem q72_73 {v0 : Int32} {v1 : Nat} : ab_res scr 72 d M 73 [l0] (.int v0 :: .ref v1 :: st) = (ab_bl scr M v1 v0).bind fun v => ab_res scr 72 d M 74 [l0] (.int v :: st) := ab_o_baload (ab_dc hc72 dX10_takeToken_73)
theorem q72_74 {v0 : Int32} : ab_res scr 72 3 M 74 [l0] ([.int v0]) = (ab_ms scr 75 [.int v0] M).bind fun o => ab_res scr 72 3 o.1 77 [l0] (ab_pr o.2 []) := ab_o_static (ab_dc hc72 dX10_takeToken_74) hk72 lk_ca_10_31 hm75 (Nat.le_of_ble_eq_true rfl) rfl rfl rfl rfl rfl
theorem q72_77 {v0 : Int32} : ab_res scr 72 d M 77 [l0] (.int v0 :: st) = if v0 = 0 then ab_res scr 72 d M 87 [l0] (st) else ab_res scr 72 d M 80 [l0] (st) := ab_o_br2 (off := 10) (ab_dc hc72 dX10_takeToken_77) (by decide) rfl rfl
theorem q72_80 {xr : Nat} : ab_res scr 72 d M 80 [some (.ref xr)] (st) = ab_res scr 72 d M 81 [some (.ref xr)] (.ref xr :: st) := ab_o_aload_n (ab_dc hc72 dX10_takeToken_80) rfl
theorem q72_81 {v0 : Nat} (hb : (ab_rc ab_L0 v0 = some 10) = True) : ab_res scr 72 3 M 81 [l0] ([.ref v0]) = (ab_ms scr 73 [.ref v0] M).bind fun o => ab_res scr 72 3 o.1 84 [l0] (ab_pr o.2 []) := ab_o_virtual (ab_dc hc72 dX10_takeToken_81) hk72 lk_ca_10_35 hm73 (Nat.le_of_ble_eq_true rfl) rfl rfl rfl (of_eq_true hb) rfl rfl
theorem q72_84 : ab_res scr 72 d M 84 [l0] (st) = ab_res scr 72 d M 142 [l0] (st) := ab_o_goto (ab_dc hc72 dX10_takeToken_84) (by decide)
theorem q72_87 {xr : Nat} : ab_res scr 72 d M 87 [some (.ref xr)] (st) = ab_res scr 72 d M 88 [some (.ref xr)] (.ref xr :: st) := ab_o_aload_n (ab_dc hc72 dX10_takeToken_87) rfl
theorem q72_88 {v0 : Nat} : ab_res scr 72 d M 88 [l0] (.ref v0 :: st) = (ab_gF ab_L0 M v0 10 0).bind fun v => ab_res scr 72 d M 91 [l0] (v :: st) := ab_o_getfield (ab_dc hc72 dX10_takeToken_88) hk72 lk_fl_10_9
theorem q72_91 {xr : Nat} : ab_res scr 72 d M 91 [some (.ref xr)] (st) = ab_res scr 72 d M 92 [some (.ref xr)] (.ref xr :: st) := ab_o_aload_n (ab_dc hc72 dX10_takeToken_91) rfl
theorem q72_92 {v0 : Nat} : ab_res scr 72 d M 92 [l0] (.ref v0 :: st) = (ab_gF ab_L0 M v0 10 2).bind fun v => ab_res scr 72 d M 95 [l0] (v :: st) := ab_o_getfield (ab_dc hc72 dX10_takeToken_92) hk72 lk_fl_10_19
theorem q72_95 {v0 : Int32} {v1 : Nat} : ab_res scr 72 d M 95 [l0] (.int v0 :: .ref v1 :: st) = (ab_bl scr M v1 v0).bind fun v => ab_res scr 72 d M 96 [l0] (.int v :: st) := ab_o_baload (ab_dc hc72 dX10_takeToken_95)
theorem q72_96 {v0 : Int32} : ab_res scr 72 3 M 96 [l0] ([.int v0]) = (ab_ms scr 76 [.int v0] M).bind fun o => ab_res scr 72 3 o.1 99 [l0] (ab_pr o.2 []) := ab_o_static (ab_dc hc72 dX10_takeToken_96) hk72 lk_ca_10_38 hm76 (Nat.le_of_ble_eq_true rfl) rfl rfl rfl rfl rfl
theorem q72_99 {v0 : Int32} : ab_res scr 72 d M 99 [l0] (.int v0 :: st) = if v0 = 0 then ab_res scr 72 d M 109 [l0] (st) else ab_res scr 72 d M 102 [l0] (st) := ab_o_br2 (off := 10) (ab_dc hc72 dX10_takeToken_99) (by decide) rfl rfl
theorem q72_102 {xr : Nat} : ab_res scr 72 d M 102 [some (.ref xr)] (st) = ab_res scr 72 d M 103 [some (.ref xr)] (.ref xr :: st) := ab_o_aload_n (ab_dc hc72 dX10_takeToken_102) rfl
theorem q72_103 {v0 : Nat} (hb : (ab_rc ab_L0 v0 = some 10) = True) : ab_res scr 72 3 M 103 [l0] ([.ref v0]) = (ab_ms scr 74 [.ref v0] M).bind fun o => ab_res scr 72 3 o.1 106 [l0] (ab_pr o.2 []) := ab_o_virtual (ab_dc hc72 dX10_takeToken_103) hk72 lk_ca_10_41 hm74 (Nat.le_of_ble_eq_true rfl) rfl rfl rfl (of_eq_true hb) rfl rfl
theorem q72_106 : ab_res scr 72 d M 106 [l0] (st) = ab_res scr 72 d M 142 [l0] (st) := ab_o_goto (ab_dc hc72 dX10_takeToken_106) (by decide)
theorem q72_109 {xr : Nat} : ab_res scr 72 d M 109 [some (.ref xr)] (st) = ab_res scr 72 d M 110 [some (.ref xr)] (.ref xr :: st) := ab_o_aload_n (ab_dc hc72 dX10_takeToken_109) rfl
theorem q72_110 {xr : Nat} : ab_res scr 72 d M 110 [some (.ref xr)] (st) = ab_res scr 72 d M 111 [some (.ref xr)] (.ref xr :: st) := ab_o_aload_n (ab_dc hc72 dX10_takeToken_110) rfl
theorem q72_111 {v0 : Nat} : ab_res scr 72 d M 111 [l0] (.ref v0 :: st) = (ab_gF ab_L0 M v0 10 0).bind fun v => ab_res scr 72 d M 114 [l0] (v :: st) := ab_o_getfield (ab_dc hc72 dX10_takeToken_111) hk72 lk_fl_10_9
theorem q72_114 {xr : Nat} : ab_res scr 72 d M 114 [some (.ref xr)] (st) = ab_res scr 72 d M 115 [some (.ref xr)] (.ref xr :: st) := ab_o_aload_n (ab_dc hc72 dX10_takeToken_114) rfl
theorem q72_115 {v0 : Nat} : ab_res scr 72 d M 115 [l0] (.ref v0 :: st) = (ab_gF ab_L0 M v0 10 2).bind fun v => ab_res scr 72 d M 118 [l0] (v :: st) := ab_o_getfield (ab_dc hc72 dX10_takeToken_115) hk72 lk_fl_10_19
theorem q72_118 {v0 : Int32} {v1 : Nat} : ab_res scr 72 d M 118 [l0] (.int v0 :: .ref v1 :: st) = (ab_bl scr M v1 v0).bind fun v => ab_res scr 72 d M 119 [l0] (.int v :: st) := ab_o_baload (ab_dc hc72 dX10_takeToken_118)
theorem q72_119 : ab_res scr 72 d M 119 [l0] (st) = ab_res scr 72 d M 121 [l0] (.int 59 :: st) := (ab_o_bipush (ab_dc hc72 dX10_takeToken_119)).trans (by rw [ki_bipush_59])
theorem q72_121 {v0 : Int32} {v1 : Int32} : ab_res scr 72 d M 121 [l0] (.int v0 :: .int v1 :: st) = if ¬ v1 = v0 then ab_res scr 72 d M 128 [l0] (st) else ab_res scr 72 d M 124 [l0] (st) := ab_o_br2 (off := 7) (ab_dc hc72 dX10_takeToken_121) (by decide) rfl rfl
theorem q72_124 : ab_res scr 72 d M 124 [l0] (st) = ab_res scr 72 d M 125 [l0] (.int 3 :: st) := (ab_o_iconst (ab_dc hc72 dX10_takeToken_124)).trans (by rw [ki_iconst_3])
theorem q72_125 : ab_res scr 72 d M 125 [l0] (st) = ab_res scr 72 d M 129 [l0] (st) := ab_o_goto (ab_dc hc72 dX10_takeToken_125) (by decide)
theorem q72_128 : ab_res scr 72 d M 128 [l0] (st) = ab_res scr 72 d M 129 [l0] (.int 4 :: st) := (ab_o_iconst (ab_dc hc72 dX10_takeToken_128)).trans (by rw [ki_iconst_4])
theorem q72_129 {v0 : Int32} {v1 : Nat} (hp : (ab_pt v1 10 3 v0 = true) = True) : ab_res scr 72 d M 129 [l0] (.int v0 :: .ref v1 :: st) = ab_res scr 72 d (ab_up M v1 3 v0) 132 [l0] (st) := ab_o_putfield (ab_dc hc72 dX10_takeToken_129) hk72 lk_fl_10_22 (of_eq_true hp)
theorem q72_132 {xr : Nat} : ab_res scr 72 d M 132 [some (.ref xr)] (st) = ab_res scr 72 d M 133 [some (.ref xr)] (.ref xr :: st) := ab_o_aload_n (ab_dc hc72 dX10_takeToken_132) rfl
theorem q72_133 {v0 : Nat} : ab_res scr 72 d M 133 [l0] (.ref v0 :: st) = ab_res scr 72 d M 134 [l0] (.ref v0 :: .ref v0 :: st) := ab_xg (ab_dc hc72 dX10_takeToken_133) rfl rfl
theorem q72_134 {v0 : Nat} : ab_res scr 72 d M 134 [l0] (.ref v0 :: st) = (ab_gF ab_L0 M v0 10 2).bind fun v => ab_res scr 72 d M 137 [l0] (v :: st) := ab_o_getfield (ab_dc hc72 dX10_takeToken_134) hk72 lk_fl_10_19
theorem q72_137 : ab_res scr 72 d M 137 [l0] (st) = ab_res scr 72 d M 138 [l0] (.int 1 :: st) := (ab_o_iconst (ab_dc hc72 dX10_takeToken_137)).trans (by rw [ki_iconst_1])
theorem q72_138 {v0 : Int32} {v1 : Int32} : ab_res scr 72 d M 138 [l0] (.int v0 :: .int v1 :: st) = ab_res scr 72 d M 139 [l0] (.int (v1 + v0) :: st) := ab_xg (ab_dc hc72 dX10_takeToken_138) rfl rfl
theorem q72_139 {v0 : Int32} {v1 : Nat} (hp : (ab_pt v1 10 2 v0 = true) = True) : ab_res scr 72 d M 139 [l0] (.int v0 :: .ref v1 :: st) = ab_res scr 72 d (ab_up M v1 2 v0) 142 [l0] (st) := ab_o_putfield (ab_dc hc72 dX10_takeToken_139) hk72 lk_fl_10_19 (of_eq_true hp)
theorem q72_142 : ab_res scr 72 d M 142 [l0] ([]) = some (M, none) := ab_o_return (ab_dc hc72 dX10_takeToken_142) hr72
end Q72
theorem hc73 : ab_code 73 = cX10_takeName := rfl
theorem hn73 : ab_nL 73 = 1 := rfl
theorem hk73 : ab_ky 73 = 10 := rfl
theorem hr73 : ab_ret 73 = none := rfl
section Q73
variable {scr : Option (List Int32)} {d : Nat} {M : ab_M} {st : List Value} {l0 : Option Value}
theorem q73_0 {xr : Nat} : ab_res scr 73 d M 0 [some (.ref xr)] (st) = ab_res scr 73 d M 1 [some (.ref xr)] (.ref xr :: st) := ab_o_aload_n (ab_dc hc73 dX10_takeName_0) rfl
theorem q73_1 : ab_res scr 73 d M 1 [l0] (st) = ab_res scr 73 d M 2 [l0] (.int 1 :: st) := (ab_o_iconst (ab_dc hc73 dX10_takeName_1)).trans (by rw [ki_iconst_1])
theorem q73_2 {v0 : Int32} {v1 : Nat} (hp : (ab_pt v1 10 3 v0 = true) = True) : ab_res scr 73 d M 2 [l0] (.int v0 :: .ref v1 :: st) = ab_res scr 73 d (ab_up M v1 3 v0) 5 [l0] (st) := ab_o_putfield (ab_dc hc73 dX10_takeName_2) hk73 lk_fl_10_22 (of_eq_true hp)
theorem q73_5 {xr : Nat} : ab_res scr 73 d M 5 [some (.ref xr)] (st) = ab_res scr 73 d M 6 [some (.ref xr)] (.ref xr :: st) := ab_o_aload_n (ab_dc hc73 dX10_takeName_5) rfl
theorem q73_6 {v0 : Nat} : ab_res scr 73 d M 6 [l0] (.ref v0 :: st) = (ab_gF ab_L0 M v0 10 2).bind fun v => ab_res scr 73 d M 9 [l0] (v :: st) := ab_o_getfield (ab_dc hc73 dX10_takeName_6) hk73 lk_fl_10_19
theorem q73_9 {xr : Nat} : ab_res scr 73 d M 9 [some (.ref xr)] (st) = ab_res scr 73 d M 10 [some (.ref xr)] (.ref xr :: st) := ab_o_aload_n (ab_dc hc73 dX10_takeName_9) rfl
theorem q73_10 {v0 : Nat} : ab_res scr 73 d M 10 [l0] (.ref v0 :: st) = (ab_gF ab_L0 M v0 10 1).bind fun v => ab_res scr 73 d M 13 [l0] (v :: st) := ab_o_getfield (ab_dc hc73 dX10_takeName_10) hk73 lk_fl_10_15
theorem q73_13 {v0 : Int32} {v1 : Int32} : ab_res scr 73 d M 13 [l0] (.int v0 :: .int v1 :: st) = if v0 ≤ v1 then ab_res scr 73 d M 44 [l0] (st) else ab_res scr 73 d M 16 [l0] (st) := ab_o_br2 (off := 31) (ab_dc hc73 dX10_takeName_13) (by decide) rfl rfl
theorem q73_16 {xr : Nat} : ab_res scr 73 d M 16 [some (.ref xr)] (st) = ab_res scr 73 d M 17 [some (.ref xr)] (.ref xr :: st) := ab_o_aload_n (ab_dc hc73 dX10_takeName_16) rfl
theorem q73_17 {v0 : Nat} : ab_res scr 73 d M 17 [l0] (.ref v0 :: st) = (ab_gF ab_L0 M v0 10 0).bind fun v => ab_res scr 73 d M 20 [l0] (v :: st) := ab_o_getfield (ab_dc hc73 dX10_takeName_17) hk73 lk_fl_10_9
theorem q73_20 {xr : Nat} : ab_res scr 73 d M 20 [some (.ref xr)] (st) = ab_res scr 73 d M 21 [some (.ref xr)] (.ref xr :: st) := ab_o_aload_n (ab_dc hc73 dX10_takeName_20) rfl
theorem q73_21 {v0 : Nat} : ab_res scr 73 d M 21 [l0] (.ref v0 :: st) = (ab_gF ab_L0 M v0 10 2).bind fun v => ab_res scr 73 d M 24 [l0] (v :: st) := ab_o_getfield (ab_dc hc73 dX10_takeName_21) hk73 lk_fl_10_19
theorem q73_24 {v0 : Int32} {v1 : Nat} : ab_res scr 73 d M 24 [l0] (.int v0 :: .ref v1 :: st) = (ab_bl scr M v1 v0).bind fun v => ab_res scr 73 d M 25 [l0] (.int v :: st) := ab_o_baload (ab_dc hc73 dX10_takeName_24)
theorem q73_25 {v0 : Int32} : ab_res scr 73 2 M 25 [l0] ([.int v0]) = (ab_ms scr 75 [.int v0] M).bind fun o => ab_res scr 73 2 o.1 28 [l0] (ab_pr o.2 []) := ab_o_static (ab_dc hc73 dX10_takeName_25) hk73 lk_ca_10_31 hm75 (Nat.le_of_ble_eq_true rfl) rfl rfl rfl rfl rfl
theorem q73_28 {v0 : Int32} : ab_res scr 73 d M 28 [l0] (.int v0 :: st) = if v0 = 0 then ab_res scr 73 d M 44 [l0] (st) else ab_res scr 73 d M 31 [l0] (st) := ab_o_br2 (off := 16) (ab_dc hc73 dX10_takeName_28) (by decide) rfl rfl
theorem q73_31 {xr : Nat} : ab_res scr 73 d M 31 [some (.ref xr)] (st) = ab_res scr 73 d M 32 [some (.ref xr)] (.ref xr :: st) := ab_o_aload_n (ab_dc hc73 dX10_takeName_31) rfl
theorem q73_32 {v0 : Nat} : ab_res scr 73 d M 32 [l0] (.ref v0 :: st) = ab_res scr 73 d M 33 [l0] (.ref v0 :: .ref v0 :: st) := ab_xg (ab_dc hc73 dX10_takeName_32) rfl rfl
theorem q73_33 {v0 : Nat} : ab_res scr 73 d M 33 [l0] (.ref v0 :: st) = (ab_gF ab_L0 M v0 10 2).bind fun v => ab_res scr 73 d M 36 [l0] (v :: st) := ab_o_getfield (ab_dc hc73 dX10_takeName_33) hk73 lk_fl_10_19
theorem q73_36 : ab_res scr 73 d M 36 [l0] (st) = ab_res scr 73 d M 37 [l0] (.int 1 :: st) := (ab_o_iconst (ab_dc hc73 dX10_takeName_36)).trans (by rw [ki_iconst_1])
theorem q73_37 {v0 : Int32} {v1 : Int32} : ab_res scr 73 d M 37 [l0] (.int v0 :: .int v1 :: st) = ab_res scr 73 d M 38 [l0] (.int (v1 + v0) :: st) := ab_xg (ab_dc hc73 dX10_takeName_37) rfl rfl
theorem q73_38 {v0 : Int32} {v1 : Nat} (hp : (ab_pt v1 10 2 v0 = true) = True) : ab_res scr 73 d M 38 [l0] (.int v0 :: .ref v1 :: st) = ab_res scr 73 d (ab_up M v1 2 v0) 41 [l0] (st) := ab_o_putfield (ab_dc hc73 dX10_takeName_38) hk73 lk_fl_10_19 (of_eq_true hp)
theorem q73_41 : ab_res scr 73 d M 41 [l0] (st) = ab_res scr 73 d M 5 [l0] (st) := ab_o_goto (ab_dc hc73 dX10_takeName_41) (by decide)
theorem q73_44 : ab_res scr 73 d M 44 [l0] ([]) = some (M, none) := ab_o_return (ab_dc hc73 dX10_takeName_44) hr73
end Q73
theorem hc74 : ab_code 74 = cX10_takeNumber := rfl
theorem hn74 : ab_nL 74 = 1 := rfl
theorem hk74 : ab_ky 74 = 10 := rfl
theorem hr74 : ab_ret 74 = none := rfl
section Q74
variable {scr : Option (List Int32)} {d : Nat} {M : ab_M} {st : List Value} {l0 : Option Value}
theorem q74_0 {xr : Nat} : ab_res scr 74 d M 0 [some (.ref xr)] (st) = ab_res scr 74 d M 1 [some (.ref xr)] (.ref xr :: st) := ab_o_aload_n (ab_dc hc74 dX10_takeNumber_0) rfl
theorem q74_1 : ab_res scr 74 d M 1 [l0] (st) = ab_res scr 74 d M 2 [l0] (.int 2 :: st) := (ab_o_iconst (ab_dc hc74 dX10_takeNumber_1)).trans (by rw [ki_iconst_2])
theorem q74_2 {v0 : Int32} {v1 : Nat} (hp : (ab_pt v1 10 3 v0 = true) = True) : ab_res scr 74 d M 2 [l0] (.int v0 :: .ref v1 :: st) = ab_res scr 74 d (ab_up M v1 3 v0) 5 [l0] (st) := ab_o_putfield (ab_dc hc74 dX10_takeNumber_2) hk74 lk_fl_10_22 (of_eq_true hp)
theorem q74_5 {xr : Nat} : ab_res scr 74 d M 5 [some (.ref xr)] (st) = ab_res scr 74 d M 6 [some (.ref xr)] (.ref xr :: st) := ab_o_aload_n (ab_dc hc74 dX10_takeNumber_5) rfl
theorem q74_6 : ab_res scr 74 d M 6 [l0] (st) = ab_res scr 74 d M 7 [l0] (.int 0 :: st) := (ab_o_iconst (ab_dc hc74 dX10_takeNumber_6)).trans (by rw [ki_iconst_0])
theorem q74_7 {v0 : Int32} {v1 : Nat} (hp : (ab_pt v1 10 5 v0 = true) = True) : ab_res scr 74 d M 7 [l0] (.int v0 :: .ref v1 :: st) = ab_res scr 74 d (ab_up M v1 5 v0) 10 [l0] (st) := ab_o_putfield (ab_dc hc74 dX10_takeNumber_7) hk74 lk_fl_10_28 (of_eq_true hp)
theorem q74_10 {xr : Nat} : ab_res scr 74 d M 10 [some (.ref xr)] (st) = ab_res scr 74 d M 11 [some (.ref xr)] (.ref xr :: st) := ab_o_aload_n (ab_dc hc74 dX10_takeNumber_10) rfl
theorem q74_11 {v0 : Nat} : ab_res scr 74 d M 11 [l0] (.ref v0 :: st) = (ab_gF ab_L0 M v0 10 2).bind fun v => ab_res scr 74 d M 14 [l0] (v :: st) := ab_o_getfield (ab_dc hc74 dX10_takeNumber_11) hk74 lk_fl_10_19
theorem q74_14 {xr : Nat} : ab_res scr 74 d M 14 [some (.ref xr)] (st) = ab_res scr 74 d M 15 [some (.ref xr)] (.ref xr :: st) := ab_o_aload_n (ab_dc hc74 dX10_takeNumber_14) rfl
theorem q74_15 {v0 : Nat} : ab_res scr 74 d M 15 [l0] (.ref v0 :: st) = (ab_gF ab_L0 M v0 10 1).bind fun v => ab_res scr 74 d M 18 [l0] (v :: st) := ab_o_getfield (ab_dc hc74 dX10_takeNumber_15) hk74 lk_fl_10_15
theorem q74_18 {v0 : Int32} {v1 : Int32} : ab_res scr 74 d M 18 [l0] (.int v0 :: .int v1 :: st) = if v0 ≤ v1 then ab_res scr 74 d M 94 [l0] (st) else ab_res scr 74 d M 21 [l0] (st) := ab_o_br2 (off := 76) (ab_dc hc74 dX10_takeNumber_18) (by decide) rfl rfl
theorem q74_21 {xr : Nat} : ab_res scr 74 d M 21 [some (.ref xr)] (st) = ab_res scr 74 d M 22 [some (.ref xr)] (.ref xr :: st) := ab_o_aload_n (ab_dc hc74 dX10_takeNumber_21) rfl
theorem q74_22 {v0 : Nat} : ab_res scr 74 d M 22 [l0] (.ref v0 :: st) = (ab_gF ab_L0 M v0 10 0).bind fun v => ab_res scr 74 d M 25 [l0] (v :: st) := ab_o_getfield (ab_dc hc74 dX10_takeNumber_22) hk74 lk_fl_10_9
theorem q74_25 {xr : Nat} : ab_res scr 74 d M 25 [some (.ref xr)] (st) = ab_res scr 74 d M 26 [some (.ref xr)] (.ref xr :: st) := ab_o_aload_n (ab_dc hc74 dX10_takeNumber_25) rfl
theorem q74_26 {v0 : Nat} : ab_res scr 74 d M 26 [l0] (.ref v0 :: st) = (ab_gF ab_L0 M v0 10 2).bind fun v => ab_res scr 74 d M 29 [l0] (v :: st) := ab_o_getfield (ab_dc hc74 dX10_takeNumber_26) hk74 lk_fl_10_19
theorem q74_29 {v0 : Int32} {v1 : Nat} : ab_res scr 74 d M 29 [l0] (.int v0 :: .ref v1 :: st) = (ab_bl scr M v1 v0).bind fun v => ab_res scr 74 d M 30 [l0] (.int v :: st) := ab_o_baload (ab_dc hc74 dX10_takeNumber_29)
theorem q74_30 {v0 : Int32} : ab_res scr 74 2 M 30 [l0] ([.int v0]) = (ab_ms scr 76 [.int v0] M).bind fun o => ab_res scr 74 2 o.1 33 [l0] (ab_pr o.2 []) := ab_o_static (ab_dc hc74 dX10_takeNumber_30) hk74 lk_ca_10_38 hm76 (Nat.le_of_ble_eq_true rfl) rfl rfl rfl rfl rfl
theorem q74_33 {v0 : Int32} : ab_res scr 74 d M 33 [l0] (.int v0 :: st) = if v0 = 0 then ab_res scr 74 d M 94 [l0] (st) else ab_res scr 74 d M 36 [l0] (st) := ab_o_br2 (off := 61) (ab_dc hc74 dX10_takeNumber_33) (by decide) rfl rfl
theorem q74_36 {xr : Nat} : ab_res scr 74 d M 36 [some (.ref xr)] (st) = ab_res scr 74 d M 37 [some (.ref xr)] (.ref xr :: st) := ab_o_aload_n (ab_dc hc74 dX10_takeNumber_36) rfl
theorem q74_37 {v0 : Nat} : ab_res scr 74 d M 37 [l0] (.ref v0 :: st) = (ab_gF ab_L0 M v0 10 2).bind fun v => ab_res scr 74 d M 40 [l0] (v :: st) := ab_o_getfield (ab_dc hc74 dX10_takeNumber_37) hk74 lk_fl_10_19
theorem q74_40 {xr : Nat} : ab_res scr 74 d M 40 [some (.ref xr)] (st) = ab_res scr 74 d M 41 [some (.ref xr)] (.ref xr :: st) := ab_o_aload_n (ab_dc hc74 dX10_takeNumber_40) rfl
theorem q74_41 {v0 : Nat} : ab_res scr 74 d M 41 [l0] (.ref v0 :: st) = (ab_gF ab_L0 M v0 10 4).bind fun v => ab_res scr 74 d M 44 [l0] (v :: st) := ab_o_getfield (ab_dc hc74 dX10_takeNumber_41) hk74 lk_fl_10_25
theorem q74_44 {v0 : Int32} {v1 : Int32} : ab_res scr 74 d M 44 [l0] (.int v0 :: .int v1 :: st) = ab_res scr 74 d M 45 [l0] (.int (v1 - v0) :: st) := ab_xg (ab_dc hc74 dX10_takeNumber_44) rfl rfl
theorem q74_45 : ab_res scr 74 d M 45 [l0] (st) = ab_res scr 74 d M 46 [l0] (.int 3 :: st) := (ab_o_iconst (ab_dc hc74 dX10_takeNumber_45)).trans (by rw [ki_iconst_3])
theorem q74_46 {v0 : Int32} {v1 : Int32} : ab_res scr 74 d M 46 [l0] (.int v0 :: .int v1 :: st) = if v0 ≤ v1 then ab_res scr 74 d M 76 [l0] (st) else ab_res scr 74 d M 49 [l0] (st) := ab_o_br2 (off := 30) (ab_dc hc74 dX10_takeNumber_46) (by decide) rfl rfl
theorem q74_49 {xr : Nat} : ab_res scr 74 d M 49 [some (.ref xr)] (st) = ab_res scr 74 d M 50 [some (.ref xr)] (.ref xr :: st) := ab_o_aload_n (ab_dc hc74 dX10_takeNumber_49) rfl
theorem q74_50 {xr : Nat} : ab_res scr 74 d M 50 [some (.ref xr)] (st) = ab_res scr 74 d M 51 [some (.ref xr)] (.ref xr :: st) := ab_o_aload_n (ab_dc hc74 dX10_takeNumber_50) rfl
theorem q74_51 {v0 : Nat} : ab_res scr 74 d M 51 [l0] (.ref v0 :: st) = (ab_gF ab_L0 M v0 10 5).bind fun v => ab_res scr 74 d M 54 [l0] (v :: st) := ab_o_getfield (ab_dc hc74 dX10_takeNumber_51) hk74 lk_fl_10_28
theorem q74_54 : ab_res scr 74 d M 54 [l0] (st) = ab_res scr 74 d M 56 [l0] (.int 10 :: st) := (ab_o_bipush (ab_dc hc74 dX10_takeNumber_54)).trans (by rw [ki_bipush_10])
theorem q74_56 {v0 : Int32} {v1 : Int32} : ab_res scr 74 d M 56 [l0] (.int v0 :: .int v1 :: st) = ab_res scr 74 d M 57 [l0] (.int (v1 * v0) :: st) := ab_xg (ab_dc hc74 dX10_takeNumber_56) rfl rfl
theorem q74_57 {xr : Nat} : ab_res scr 74 d M 57 [some (.ref xr)] (st) = ab_res scr 74 d M 58 [some (.ref xr)] (.ref xr :: st) := ab_o_aload_n (ab_dc hc74 dX10_takeNumber_57) rfl
theorem q74_58 {v0 : Nat} : ab_res scr 74 d M 58 [l0] (.ref v0 :: st) = (ab_gF ab_L0 M v0 10 0).bind fun v => ab_res scr 74 d M 61 [l0] (v :: st) := ab_o_getfield (ab_dc hc74 dX10_takeNumber_58) hk74 lk_fl_10_9
theorem q74_61 {xr : Nat} : ab_res scr 74 d M 61 [some (.ref xr)] (st) = ab_res scr 74 d M 62 [some (.ref xr)] (.ref xr :: st) := ab_o_aload_n (ab_dc hc74 dX10_takeNumber_61) rfl
theorem q74_62 {v0 : Nat} : ab_res scr 74 d M 62 [l0] (.ref v0 :: st) = (ab_gF ab_L0 M v0 10 2).bind fun v => ab_res scr 74 d M 65 [l0] (v :: st) := ab_o_getfield (ab_dc hc74 dX10_takeNumber_62) hk74 lk_fl_10_19
theorem q74_65 {v0 : Int32} {v1 : Nat} : ab_res scr 74 d M 65 [l0] (.int v0 :: .ref v1 :: st) = (ab_bl scr M v1 v0).bind fun v => ab_res scr 74 d M 66 [l0] (.int v :: st) := ab_o_baload (ab_dc hc74 dX10_takeNumber_65)
theorem q74_66 {v0 : Int32} {v1 : Int32} : ab_res scr 74 d M 66 [l0] (.int v0 :: .int v1 :: st) = ab_res scr 74 d M 67 [l0] (.int (v1 + v0) :: st) := ab_xg (ab_dc hc74 dX10_takeNumber_66) rfl rfl
theorem q74_67 : ab_res scr 74 d M 67 [l0] (st) = ab_res scr 74 d M 69 [l0] (.int 48 :: st) := (ab_o_bipush (ab_dc hc74 dX10_takeNumber_67)).trans (by rw [ki_bipush_48])
theorem q74_69 {v0 : Int32} {v1 : Int32} : ab_res scr 74 d M 69 [l0] (.int v0 :: .int v1 :: st) = ab_res scr 74 d M 70 [l0] (.int (v1 - v0) :: st) := ab_xg (ab_dc hc74 dX10_takeNumber_69) rfl rfl
theorem q74_70 {v0 : Int32} {v1 : Nat} (hp : (ab_pt v1 10 5 v0 = true) = True) : ab_res scr 74 d M 70 [l0] (.int v0 :: .ref v1 :: st) = ab_res scr 74 d (ab_up M v1 5 v0) 73 [l0] (st) := ab_o_putfield (ab_dc hc74 dX10_takeNumber_70) hk74 lk_fl_10_28 (of_eq_true hp)
theorem q74_73 : ab_res scr 74 d M 73 [l0] (st) = ab_res scr 74 d M 81 [l0] (st) := ab_o_goto (ab_dc hc74 dX10_takeNumber_73) (by decide)
theorem q74_76 {xr : Nat} : ab_res scr 74 d M 76 [some (.ref xr)] (st) = ab_res scr 74 d M 77 [some (.ref xr)] (.ref xr :: st) := ab_o_aload_n (ab_dc hc74 dX10_takeNumber_76) rfl
theorem q74_77 : ab_res scr 74 d M 77 [l0] (st) = ab_res scr 74 d M 78 [l0] (.int 4 :: st) := (ab_o_iconst (ab_dc hc74 dX10_takeNumber_77)).trans (by rw [ki_iconst_4])
theorem q74_78 {v0 : Int32} {v1 : Nat} (hp : (ab_pt v1 10 3 v0 = true) = True) : ab_res scr 74 d M 78 [l0] (.int v0 :: .ref v1 :: st) = ab_res scr 74 d (ab_up M v1 3 v0) 81 [l0] (st) := ab_o_putfield (ab_dc hc74 dX10_takeNumber_78) hk74 lk_fl_10_22 (of_eq_true hp)
theorem q74_81 {xr : Nat} : ab_res scr 74 d M 81 [some (.ref xr)] (st) = ab_res scr 74 d M 82 [some (.ref xr)] (.ref xr :: st) := ab_o_aload_n (ab_dc hc74 dX10_takeNumber_81) rfl
theorem q74_82 {v0 : Nat} : ab_res scr 74 d M 82 [l0] (.ref v0 :: st) = ab_res scr 74 d M 83 [l0] (.ref v0 :: .ref v0 :: st) := ab_xg (ab_dc hc74 dX10_takeNumber_82) rfl rfl
theorem q74_83 {v0 : Nat} : ab_res scr 74 d M 83 [l0] (.ref v0 :: st) = (ab_gF ab_L0 M v0 10 2).bind fun v => ab_res scr 74 d M 86 [l0] (v :: st) := ab_o_getfield (ab_dc hc74 dX10_takeNumber_83) hk74 lk_fl_10_19
theorem q74_86 : ab_res scr 74 d M 86 [l0] (st) = ab_res scr 74 d M 87 [l0] (.int 1 :: st) := (ab_o_iconst (ab_dc hc74 dX10_takeNumber_86)).trans (by rw [ki_iconst_1])
theorem q74_87 {v0 : Int32} {v1 : Int32} : ab_res scr 74 d M 87 [l0] (.int v0 :: .int v1 :: st) = ab_res scr 74 d M 88 [l0] (.int (v1 + v0) :: st) := ab_xg (ab_dc hc74 dX10_takeNumber_87) rfl rfl
theorem q74_88 {v0 : Int32} {v1 : Nat} (hp : (ab_pt v1 10 2 v0 = true) = True) : ab_res scr 74 d M 88 [l0] (.int v0 :: .ref v1 :: st) = ab_res scr 74 d (ab_up M v1 2 v0) 91 [l0] (st) := ab_o_putfield (ab_dc hc74 dX10_takeNumber_88) hk74 lk_fl_10_19 (of_eq_true hp)
theorem q74_91 : ab_res scr 74 d M 91 [l0] (st) = ab_res scr 74 d M 10 [l0] (st) := ab_o_goto (ab_dc hc74 dX10_takeNumber_91) (by decide)
theorem q74_94 : ab_res scr 74 d M 94 [l0] ([]) = some (M, none) := ab_o_return (ab_dc hc74 dX10_takeNumber_94) hr74
end Q74
theorem hc75 : ab_code 75 = cX10_isLetter := rfl
theorem hn75 : ab_nL 75 = 1 := rfl
theorem hk75 : ab_ky 75 = 10 := rfl
theorem hr75 : ab_ret 75 = some .boolean := rfl
section Q75
variable {scr : Option (List Int32)} {d : Nat} {M : ab_M} {st : List Value} {l0 : Option Value}
theorem q75_0 {x : Int32} : ab_res scr 75 d M 0 [some (.int x)] (st) = ab_res scr 75 d M 1 [some (.int x)] (.int x :: st) := ab_o_iload_n (ab_dc hc75 dX10_isLetter_0) rfl
theorem q75_1 : ab_res scr 75 d M 1 [l0] (st) = ab_res scr 75 d M 3 [l0] (.int 97 :: st) := (ab_o_bipush (ab_dc hc75 dX10_isLetter_1)).trans (by rw [ki_bipush_97])
theorem q75_3 {v0 : Int32} {v1 : Int32} : ab_res scr 75 d M 3 [l0] (.int v0 :: .int v1 :: st) = if v1 < v0 then ab_res scr 75 d M 16 [l0] (st) else ab_res scr 75 d M 6 [l0] (st) := ab_o_br2 (off := 13) (ab_dc hc75 dX10_isLetter_3) (by decide) rfl rfl
theorem q75_6 {x : Int32} : ab_res scr 75 d M 6 [some (.int x)] (st) = ab_res scr 75 d M 7 [some (.int x)] (.int x :: st) := ab_o_iload_n (ab_dc hc75 dX10_isLetter_6) rfl
theorem q75_7 : ab_res scr 75 d M 7 [l0] (st) = ab_res scr 75 d M 9 [l0] (.int 122 :: st) := (ab_o_bipush (ab_dc hc75 dX10_isLetter_7)).trans (by rw [ki_bipush_122])
theorem q75_9 {v0 : Int32} {v1 : Int32} : ab_res scr 75 d M 9 [l0] (.int v0 :: .int v1 :: st) = if v0 < v1 then ab_res scr 75 d M 16 [l0] (st) else ab_res scr 75 d M 12 [l0] (st) := ab_o_br2 (off := 7) (ab_dc hc75 dX10_isLetter_9) (by decide) rfl rfl
theorem q75_12 : ab_res scr 75 d M 12 [l0] (st) = ab_res scr 75 d M 13 [l0] (.int 1 :: st) := (ab_o_iconst (ab_dc hc75 dX10_isLetter_12)).trans (by rw [ki_iconst_1])
theorem q75_13 : ab_res scr 75 d M 13 [l0] (st) = ab_res scr 75 d M 17 [l0] (st) := ab_o_goto (ab_dc hc75 dX10_isLetter_13) (by decide)
theorem q75_16 : ab_res scr 75 d M 16 [l0] (st) = ab_res scr 75 d M 17 [l0] (.int 0 :: st) := (ab_o_iconst (ab_dc hc75 dX10_isLetter_16)).trans (by rw [ki_iconst_0])
theorem q75_17 {v0 : Int32} (hv : (narrow .boolean (.int v0) = .int v0) = True) : ab_res scr 75 d M 17 [l0] ([.int v0]) = some (M, some (.int v0)) := ab_o_ireturn (ab_dc hc75 dX10_isLetter_17) hr75 (of_eq_true hv)
end Q75
theorem hc76 : ab_code 76 = cX10_isFigure := rfl
theorem hn76 : ab_nL 76 = 1 := rfl
theorem hk76 : ab_ky 76 = 10 := rfl
theorem hr76 : ab_ret 76 = some .boolean := rfl
section Q76
variable {scr : Option (List Int32)} {d : Nat} {M : ab_M} {st : List Value} {l0 : Option Value}
theorem q76_0 {x : Int32} : ab_res scr 76 d M 0 [some (.int x)] (st) = ab_res scr 76 d M 1 [some (.int x)] (.int x :: st) := ab_o_iload_n (ab_dc hc76 dX10_isFigure_0) rfl
theorem q76_1 : ab_res scr 76 d M 1 [l0] (st) = ab_res scr 76 d M 3 [l0] (.int 48 :: st) := (ab_o_bipush (ab_dc hc76 dX10_isFigure_1)).trans (by rw [ki_bipush_48])
theorem q76_3 {v0 : Int32} {v1 : Int32} : ab_res scr 76 d M 3 [l0] (.int v0 :: .int v1 :: st) = if v1 < v0 then ab_res scr 76 d M 16 [l0] (st) else ab_res scr 76 d M 6 [l0] (st) := ab_o_br2 (off := 13) (ab_dc hc76 dX10_isFigure_3) (by decide) rfl rfl
theorem q76_6 {x : Int32} : ab_res scr 76 d M 6 [some (.int x)] (st) = ab_res scr 76 d M 7 [some (.int x)] (.int x :: st) := ab_o_iload_n (ab_dc hc76 dX10_isFigure_6) rfl
theorem q76_7 : ab_res scr 76 d M 7 [l0] (st) = ab_res scr 76 d M 9 [l0] (.int 57 :: st) := (ab_o_bipush (ab_dc hc76 dX10_isFigure_7)).trans (by rw [ki_bipush_57])
theorem q76_9 {v0 : Int32} {v1 : Int32} : ab_res scr 76 d M 9 [l0] (.int v0 :: .int v1 :: st) = if v0 < v1 then ab_res scr 76 d M 16 [l0] (st) else ab_res scr 76 d M 12 [l0] (st) := ab_o_br2 (off := 7) (ab_dc hc76 dX10_isFigure_9) (by decide) rfl rfl
theorem q76_12 : ab_res scr 76 d M 12 [l0] (st) = ab_res scr 76 d M 13 [l0] (.int 1 :: st) := (ab_o_iconst (ab_dc hc76 dX10_isFigure_12)).trans (by rw [ki_iconst_1])
theorem q76_13 : ab_res scr 76 d M 13 [l0] (st) = ab_res scr 76 d M 17 [l0] (st) := ab_o_goto (ab_dc hc76 dX10_isFigure_13) (by decide)
theorem q76_16 : ab_res scr 76 d M 16 [l0] (st) = ab_res scr 76 d M 17 [l0] (.int 0 :: st) := (ab_o_iconst (ab_dc hc76 dX10_isFigure_16)).trans (by rw [ki_iconst_0])
theorem q76_17 {v0 : Int32} (hv : (narrow .boolean (.int v0) = .int v0) = True) : ab_res scr 76 d M 17 [l0] ([.int v0]) = some (M, some (.int v0)) := ab_o_ireturn (ab_dc hc76 dX10_isFigure_17) hr76 (of_eq_true hv)
end Q76
theorem hc77 : ab_code 77 = cX10_isName := rfl
theorem hn77 : ab_nL 77 = 3 := rfl
theorem hk77 : ab_ky 77 = 10 := rfl
theorem hr77 : ab_ret 77 = some .boolean := rfl
section Q77
variable {scr : Option (List Int32)} {d : Nat} {M : ab_M} {st : List Value} {l0 l1 l2 : Option Value}
theorem q77_0 {xr : Nat} : ab_res scr 77 d M 0 [some (.ref xr), l1, l2] (st) = ab_res scr 77 d M 1 [some (.ref xr), l1, l2] (.ref xr :: st) := ab_o_aload_n (ab_dc hc77 dX10_isName_0) rfl
theorem q77_1 {v0 : Nat} : ab_res scr 77 d M 1 [l0, l1, l2] (.ref v0 :: st) = (ab_gF ab_L0 M v0 10 3).bind fun v => ab_res scr 77 d M 4 [l0, l1, l2] (v :: st) := ab_o_getfield (ab_dc hc77 dX10_isName_1) hk77 lk_fl_10_22
theorem q77_4 : ab_res scr 77 d M 4 [l0, l1, l2] (st) = ab_res scr 77 d M 5 [l0, l1, l2] (.int 1 :: st) := (ab_o_iconst (ab_dc hc77 dX10_isName_4)).trans (by rw [ki_iconst_1])
theorem q77_5 {v0 : Int32} {v1 : Int32} : ab_res scr 77 d M 5 [l0, l1, l2] (.int v0 :: .int v1 :: st) = if ¬ v1 = v0 then ab_res scr 77 d M 24 [l0, l1, l2] (st) else ab_res scr 77 d M 8 [l0, l1, l2] (st) := ab_o_br2 (off := 19) (ab_dc hc77 dX10_isName_5) (by decide) rfl rfl
theorem q77_8 {xr : Nat} : ab_res scr 77 d M 8 [some (.ref xr), l1, l2] (st) = ab_res scr 77 d M 9 [some (.ref xr), l1, l2] (.ref xr :: st) := ab_o_aload_n (ab_dc hc77 dX10_isName_8) rfl
theorem q77_9 {v0 : Nat} : ab_res scr 77 d M 9 [l0, l1, l2] (.ref v0 :: st) = (ab_gF ab_L0 M v0 10 2).bind fun v => ab_res scr 77 d M 12 [l0, l1, l2] (v :: st) := ab_o_getfield (ab_dc hc77 dX10_isName_9) hk77 lk_fl_10_19
theorem q77_12 {xr : Nat} : ab_res scr 77 d M 12 [some (.ref xr), l1, l2] (st) = ab_res scr 77 d M 13 [some (.ref xr), l1, l2] (.ref xr :: st) := ab_o_aload_n (ab_dc hc77 dX10_isName_12) rfl
theorem q77_13 {v0 : Nat} : ab_res scr 77 d M 13 [l0, l1, l2] (.ref v0 :: st) = (ab_gF ab_L0 M v0 10 4).bind fun v => ab_res scr 77 d M 16 [l0, l1, l2] (v :: st) := ab_o_getfield (ab_dc hc77 dX10_isName_13) hk77 lk_fl_10_25
theorem q77_16 {v0 : Int32} {v1 : Int32} : ab_res scr 77 d M 16 [l0, l1, l2] (.int v0 :: .int v1 :: st) = ab_res scr 77 d M 17 [l0, l1, l2] (.int (v1 - v0) :: st) := ab_xg (ab_dc hc77 dX10_isName_16) rfl rfl
theorem q77_17 {xr : Nat} : ab_res scr 77 d M 17 [l0, some (.ref xr), l2] (st) = ab_res scr 77 d M 18 [l0, some (.ref xr), l2] (.ref xr :: st) := ab_o_aload_n (ab_dc hc77 dX10_isName_17) rfl
theorem q77_18 {v0 : Nat} {v1 : Int32} (hb : (ab_rc ab_L0 v0 = some 20) = True) : ab_res scr 77 5 M 18 [l0, l1, l2] ([.ref v0, .int v1]) = (ab_ms scr 197 [.ref v0] M).bind fun o => ab_res scr 77 5 o.1 21 [l0, l1, l2] (ab_pr o.2 [.int v1]) := ab_o_virtual (ab_dc hc77 dX10_isName_18) hk77 lk_ca_10_44 hm197 (Nat.le_of_ble_eq_true rfl) rfl rfl rfl (of_eq_true hb) rfl rfl
theorem q77_21 {v0 : Int32} {v1 : Int32} : ab_res scr 77 d M 21 [l0, l1, l2] (.int v0 :: .int v1 :: st) = if v1 = v0 then ab_res scr 77 d M 26 [l0, l1, l2] (st) else ab_res scr 77 d M 24 [l0, l1, l2] (st) := ab_o_br2 (off := 5) (ab_dc hc77 dX10_isName_21) (by decide) rfl rfl
theorem q77_24 : ab_res scr 77 d M 24 [l0, l1, l2] (st) = ab_res scr 77 d M 25 [l0, l1, l2] (.int 0 :: st) := (ab_o_iconst (ab_dc hc77 dX10_isName_24)).trans (by rw [ki_iconst_0])
theorem q77_25 {v0 : Int32} (hv : (narrow .boolean (.int v0) = .int v0) = True) : ab_res scr 77 d M 25 [l0, l1, l2] ([.int v0]) = some (M, some (.int v0)) := ab_o_ireturn (ab_dc hc77 dX10_isName_25) hr77 (of_eq_true hv)
theorem q77_26 : ab_res scr 77 d M 26 [l0, l1, l2] (st) = ab_res scr 77 d M 27 [l0, l1, l2] (.int 0 :: st) := (ab_o_iconst (ab_dc hc77 dX10_isName_26)).trans (by rw [ki_iconst_0])
theorem q77_27 {v0 : Int32} : ab_res scr 77 d M 27 [l0, l1, l2] (.int v0 :: st) = ab_res scr 77 d M 28 [l0, ab_nl l1, some (.int v0)] (st) := (ab_o_st1 (k := 2) (ab_dc hc77 dX10_isName_27) (Or.inr (Or.inr (Or.inl ⟨2, rfl, rfl, rfl, ⟨_, rfl⟩⟩))) hn77 (by decide)).trans (ab_kl1 [l0] _ l1 rfl rfl)
theorem q77_28 {x : Int32} : ab_res scr 77 d M 28 [l0, l1, some (.int x)] (st) = ab_res scr 77 d M 29 [l0, l1, some (.int x)] (.int x :: st) := ab_o_iload_n (ab_dc hc77 dX10_isName_28) rfl
theorem q77_29 {xr : Nat} : ab_res scr 77 d M 29 [l0, some (.ref xr), l2] (st) = ab_res scr 77 d M 30 [l0, some (.ref xr), l2] (.ref xr :: st) := ab_o_aload_n (ab_dc hc77 dX10_isName_29) rfl
theorem q77_30 {v0 : Nat} {v1 : Int32} (hb : (ab_rc ab_L0 v0 = some 20) = True) : ab_res scr 77 5 M 30 [l0, l1, l2] ([.ref v0, .int v1]) = (ab_ms scr 197 [.ref v0] M).bind fun o => ab_res scr 77 5 o.1 33 [l0, l1, l2] (ab_pr o.2 [.int v1]) := ab_o_virtual (ab_dc hc77 dX10_isName_30) hk77 lk_ca_10_44 hm197 (Nat.le_of_ble_eq_true rfl) rfl rfl rfl (of_eq_true hb) rfl rfl
theorem q77_33 {v0 : Int32} {v1 : Int32} : ab_res scr 77 d M 33 [l0, l1, l2] (.int v0 :: .int v1 :: st) = if v0 ≤ v1 then ab_res scr 77 d M 63 [l0, l1, l2] (st) else ab_res scr 77 d M 36 [l0, l1, l2] (st) := ab_o_br2 (off := 30) (ab_dc hc77 dX10_isName_33) (by decide) rfl rfl
theorem q77_36 {xr : Nat} : ab_res scr 77 d M 36 [some (.ref xr), l1, l2] (st) = ab_res scr 77 d M 37 [some (.ref xr), l1, l2] (.ref xr :: st) := ab_o_aload_n (ab_dc hc77 dX10_isName_36) rfl
theorem q77_37 {v0 : Nat} : ab_res scr 77 d M 37 [l0, l1, l2] (.ref v0 :: st) = (ab_gF ab_L0 M v0 10 0).bind fun v => ab_res scr 77 d M 40 [l0, l1, l2] (v :: st) := ab_o_getfield (ab_dc hc77 dX10_isName_37) hk77 lk_fl_10_9
theorem q77_40 {xr : Nat} : ab_res scr 77 d M 40 [some (.ref xr), l1, l2] (st) = ab_res scr 77 d M 41 [some (.ref xr), l1, l2] (.ref xr :: st) := ab_o_aload_n (ab_dc hc77 dX10_isName_40) rfl
theorem q77_41 {v0 : Nat} : ab_res scr 77 d M 41 [l0, l1, l2] (.ref v0 :: st) = (ab_gF ab_L0 M v0 10 4).bind fun v => ab_res scr 77 d M 44 [l0, l1, l2] (v :: st) := ab_o_getfield (ab_dc hc77 dX10_isName_41) hk77 lk_fl_10_25
theorem q77_44 {x : Int32} : ab_res scr 77 d M 44 [l0, l1, some (.int x)] (st) = ab_res scr 77 d M 45 [l0, l1, some (.int x)] (.int x :: st) := ab_o_iload_n (ab_dc hc77 dX10_isName_44) rfl
theorem q77_45 {v0 : Int32} {v1 : Int32} : ab_res scr 77 d M 45 [l0, l1, l2] (.int v0 :: .int v1 :: st) = ab_res scr 77 d M 46 [l0, l1, l2] (.int (v1 + v0) :: st) := ab_xg (ab_dc hc77 dX10_isName_45) rfl rfl
theorem q77_46 {v0 : Int32} {v1 : Nat} : ab_res scr 77 d M 46 [l0, l1, l2] (.int v0 :: .ref v1 :: st) = (ab_bl scr M v1 v0).bind fun v => ab_res scr 77 d M 47 [l0, l1, l2] (.int v :: st) := ab_o_baload (ab_dc hc77 dX10_isName_46)
theorem q77_47 {xr : Nat} : ab_res scr 77 d M 47 [l0, some (.ref xr), l2] (st) = ab_res scr 77 d M 48 [l0, some (.ref xr), l2] (.ref xr :: st) := ab_o_aload_n (ab_dc hc77 dX10_isName_47) rfl
theorem q77_48 {x : Int32} : ab_res scr 77 d M 48 [l0, l1, some (.int x)] (st) = ab_res scr 77 d M 49 [l0, l1, some (.int x)] (.int x :: st) := ab_o_iload_n (ab_dc hc77 dX10_isName_48) rfl
theorem q77_49 {v0 : Int32} {v1 : Nat} {v2 : Int32} (hb : (ab_rc ab_L0 v1 = some 20) = True) : ab_res scr 77 5 M 49 [l0, l1, l2] ([.int v0, .ref v1, .int v2]) = (ab_ms scr 198 [.ref v1, .int v0] M).bind fun o => ab_res scr 77 5 o.1 52 [l0, l1, l2] (ab_pr o.2 [.int v2]) := ab_o_virtual (ab_dc hc77 dX10_isName_49) hk77 lk_ca_10_49 hm198 (Nat.le_of_ble_eq_true rfl) rfl rfl rfl (of_eq_true hb) rfl rfl
theorem q77_52 {v0 : Int32} {v1 : Int32} : ab_res scr 77 d M 52 [l0, l1, l2] (.int v0 :: .int v1 :: st) = if v1 = v0 then ab_res scr 77 d M 57 [l0, l1, l2] (st) else ab_res scr 77 d M 55 [l0, l1, l2] (st) := ab_o_br2 (off := 5) (ab_dc hc77 dX10_isName_52) (by decide) rfl rfl
theorem q77_55 : ab_res scr 77 d M 55 [l0, l1, l2] (st) = ab_res scr 77 d M 56 [l0, l1, l2] (.int 0 :: st) := (ab_o_iconst (ab_dc hc77 dX10_isName_55)).trans (by rw [ki_iconst_0])
theorem q77_56 {v0 : Int32} (hv : (narrow .boolean (.int v0) = .int v0) = True) : ab_res scr 77 d M 56 [l0, l1, l2] ([.int v0]) = some (M, some (.int v0)) := ab_o_ireturn (ab_dc hc77 dX10_isName_56) hr77 (of_eq_true hv)
theorem q77_57 {x : Int32} : ab_res scr 77 d M 57 [l0, l1, some (.int x)] (st) = ab_res scr 77 d M 60 [l0, ab_nl l1, some (.int (x + 1))] (st) := (ab_o_iinc (k := 2) (ab_dc hc77 dX10_isName_57) hn77 (by decide) rfl).trans (by rw [ki_iconst_1]; exact ab_kl1 [l0] _ l1 rfl rfl)
theorem q77_60 : ab_res scr 77 d M 60 [l0, l1, l2] (st) = ab_res scr 77 d M 28 [l0, l1, l2] (st) := ab_o_goto (ab_dc hc77 dX10_isName_60) (by decide)
theorem q77_63 : ab_res scr 77 d M 63 [l0, l1, l2] (st) = ab_res scr 77 d M 64 [l0, l1, l2] (.int 1 :: st) := (ab_o_iconst (ab_dc hc77 dX10_isName_63)).trans (by rw [ki_iconst_1])
theorem q77_64 {v0 : Int32} (hv : (narrow .boolean (.int v0) = .int v0) = True) : ab_res scr 77 d M 64 [l0, l1, l2] ([.int v0]) = some (M, some (.int v0)) := ab_o_ireturn (ab_dc hc77 dX10_isName_64) hr77 (of_eq_true hv)
end Q77
theorem hc79 : ab_code 79 = cX11_feed := rfl
theorem hn79 : ab_nL 79 = 3 := rfl
theorem hk79 : ab_ky 79 = 11 := rfl
theorem hr79 : ab_ret 79 = some .int := rfl
section Q79
variable {scr : Option (List Int32)} {d : Nat} {M : ab_M} {st : List Value} {l0 l1 l2 : Option Value}
theorem q79_0 {xr : Nat} : ab_res scr 79 d M 0 [some (.ref xr), l1, l2] (st) = ab_res scr 79 d M 1 [some (.ref xr), l1, l2] (.ref xr :: st) := ab_o_aload_n (ab_dc hc79 dX11_feed_0) rfl
theorem q79_1 {v0 : Nat} : ab_res scr 79 d M 1 [l0, l1, l2] (.ref v0 :: st) = (ab_gF ab_L0 M v0 11 0).bind fun v => ab_res scr 79 d M 4 [l0, l1, l2] (v :: st) := ab_o_getfield (ab_dc hc79 dX11_feed_1) hk79 lk_fl_11_10
theorem q79_4 {xj : Int64} : ab_res scr 79 d M 4 [l0, some (.long xj), l2] (st) = ab_res scr 79 d M 5 [l0, some (.long xj), l2] (.long xj :: st) := ab_o_lload_n (ab_dc hc79 dX11_feed_4) rfl
theorem q79_5 {v0 : Int64} {v1 : Nat} (hb : (ab_rc ab_L0 v1 = some 10) = True) : ab_res scr 79 2 M 5 [l0, l1, l2] ([.long v0, .ref v1]) = (ab_ms scr 71 [.ref v1, .long v0] M).bind fun o => ab_res scr 79 2 o.1 8 [l0, l1, l2] (ab_pr o.2 []) := ab_o_virtual (ab_dc hc79 dX11_feed_5) hk79 lk_ca_11_82 hm71 (Nat.le_of_ble_eq_true rfl) rfl rfl rfl (of_eq_true hb) rfl rfl
theorem q79_8 {v0 : Int32} : ab_res scr 79 d M 8 [l0, l1, l2] (.int v0 :: st) = if v0 = 0 then ab_res scr 79 d M 21 [l0, l1, l2] (st) else ab_res scr 79 d M 11 [l0, l1, l2] (st) := ab_o_br2 (off := 13) (ab_dc hc79 dX11_feed_8) (by decide) rfl rfl
theorem q79_11 {xr : Nat} : ab_res scr 79 d M 11 [some (.ref xr), l1, l2] (st) = ab_res scr 79 d M 12 [some (.ref xr), l1, l2] (.ref xr :: st) := ab_o_aload_n (ab_dc hc79 dX11_feed_11) rfl
theorem q79_12 {v0 : Nat} : ab_res scr 79 d M 12 [l0, l1, l2] (.ref v0 :: st) = (ab_gF ab_L0 M v0 11 0).bind fun v => ab_res scr 79 d M 15 [l0, l1, l2] (v :: st) := ab_o_getfield (ab_dc hc79 dX11_feed_12) hk79 lk_fl_11_10
theorem q79_15 {v0 : Nat} : ab_res scr 79 d M 15 [l0, l1, l2] (.ref v0 :: st) = (ab_gF ab_L0 M v0 10 1).bind fun v => ab_res scr 79 d M 18 [l0, l1, l2] (v :: st) := ab_o_getfield (ab_dc hc79 dX11_feed_15) hk79 lk_fl_11_86
theorem q79_18 : ab_res scr 79 d M 18 [l0, l1, l2] (st) = ab_res scr 79 d M 23 [l0, l1, l2] (st) := ab_o_goto (ab_dc hc79 dX11_feed_18) (by decide)
theorem q79_21 : ab_res scr 79 d M 21 [l0, l1, l2] (st) = ab_res scr 79 d M 23 [l0, l1, l2] (.int (-3) :: st) := (ab_o_bipush (ab_dc hc79 dX11_feed_21)).trans (by rw [ki_bipush_m3])
theorem q79_23 {v0 : Int32} : ab_res scr 79 d M 23 [l0, l1, l2] ([.int v0]) = some (M, some (.int v0)) := ab_o_ireturn (ab_dc hc79 dX11_feed_23) hr79 rfl
end Q79
theorem hc80 : ab_code 80 = cX11_end := rfl
theorem hn80 : ab_nL 80 = 3 := rfl
theorem hk80 : ab_ky 80 = 11 := rfl
theorem hr80 : ab_ret 80 = some .int := rfl
section Q80
variable {scr : Option (List Int32)} {d : Nat} {M : ab_M} {st : List Value} {l0 l1 l2 : Option Value}
theorem q80_0 {x : Int32} : ab_res scr 80 d M 0 [l0, some (.int x), l2] (st) = ab_res scr 80 d M 1 [l0, some (.int x), l2] (.int x :: st) := ab_o_iload_n (ab_dc hc80 dX11_end_0) rfl
theorem q80_1 {v0 : Int32} : ab_res scr 80 d M 1 [l0, l1, l2] (.int v0 :: st) = if v0 < 0 then ab_res scr 80 d M 15 [l0, l1, l2] (st) else ab_res scr 80 d M 4 [l0, l1, l2] (st) := ab_o_br2 (off := 14) (ab_dc hc80 dX11_end_1) (by decide) rfl rfl
theorem q80_4 {x : Int32} : ab_res scr 80 d M 4 [l0, some (.int x), l2] (st) = ab_res scr 80 d M 5 [l0, some (.int x), l2] (.int x :: st) := ab_o_iload_n (ab_dc hc80 dX11_end_4) rfl
theorem q80_5 {xr : Nat} : ab_res scr 80 d M 5 [some (.ref xr), l1, l2] (st) = ab_res scr 80 d M 6 [some (.ref xr), l1, l2] (.ref xr :: st) := ab_o_aload_n (ab_dc hc80 dX11_end_5) rfl
theorem q80_6 {v0 : Nat} : ab_res scr 80 d M 6 [l0, l1, l2] (.ref v0 :: st) = (ab_gF ab_L0 M v0 11 0).bind fun v => ab_res scr 80 d M 9 [l0, l1, l2] (v :: st) := ab_o_getfield (ab_dc hc80 dX11_end_6) hk80 lk_fl_11_10
theorem q80_9 {v0 : Nat} : ab_res scr 80 d M 9 [l0, l1, l2] (.ref v0 :: st) = (ab_gF ab_L0 M v0 10 1).bind fun v => ab_res scr 80 d M 12 [l0, l1, l2] (v :: st) := ab_o_getfield (ab_dc hc80 dX11_end_9) hk80 lk_fl_11_86
theorem q80_12 {v0 : Int32} {v1 : Int32} : ab_res scr 80 d M 12 [l0, l1, l2] (.int v0 :: .int v1 :: st) = if v1 ≤ v0 then ab_res scr 80 d M 17 [l0, l1, l2] (st) else ab_res scr 80 d M 15 [l0, l1, l2] (st) := ab_o_br2 (off := 5) (ab_dc hc80 dX11_end_12) (by decide) rfl rfl
theorem q80_15 : ab_res scr 80 d M 15 [l0, l1, l2] (st) = ab_res scr 80 d M 16 [l0, l1, l2] (.int (-1) :: st) := (ab_o_iconst (ab_dc hc80 dX11_end_15)).trans (by rw [ki_iconst_m1])
theorem q80_16 {v0 : Int32} : ab_res scr 80 d M 16 [l0, l1, l2] ([.int v0]) = some (M, some (.int v0)) := ab_o_ireturn (ab_dc hc80 dX11_end_16) hr80 rfl
theorem q80_17 {xr : Nat} : ab_res scr 80 d M 17 [some (.ref xr), l1, l2] (st) = ab_res scr 80 d M 18 [some (.ref xr), l1, l2] (.ref xr :: st) := ab_o_aload_n (ab_dc hc80 dX11_end_17) rfl
theorem q80_18 {v0 : Nat} : ab_res scr 80 d M 18 [l0, l1, l2] (.ref v0 :: st) = (ab_gF ab_L0 M v0 11 0).bind fun v => ab_res scr 80 d M 21 [l0, l1, l2] (v :: st) := ab_o_getfield (ab_dc hc80 dX11_end_18) hk80 lk_fl_11_10
theorem q80_21 {v0 : Nat} : ab_res scr 80 d M 21 [l0, l1, l2] (.ref v0 :: st) = (ab_gF ab_L0 M v0 10 1).bind fun v => ab_res scr 80 d M 24 [l0, l1, l2] (v :: st) := ab_o_getfield (ab_dc hc80 dX11_end_21) hk80 lk_fl_11_86
theorem q80_24 {v0 : Int32} : ab_res scr 80 d M 24 [l0, l1, l2] (.int v0 :: st) = ab_res scr 80 d M 25 [l0, ab_nl l1, some (.int v0)] (st) := (ab_o_st1 (k := 2) (ab_dc hc80 dX11_end_24) (Or.inr (Or.inr (Or.inl ⟨2, rfl, rfl, rfl, ⟨_, rfl⟩⟩))) hn80 (by decide)).trans (ab_kl1 [l0] _ l1 rfl rfl)
theorem q80_25 {xr : Nat} : ab_res scr 80 d M 25 [some (.ref xr), l1, l2] (st) = ab_res scr 80 d M 26 [some (.ref xr), l1, l2] (.ref xr :: st) := ab_o_aload_n (ab_dc hc80 dX11_end_25) rfl
theorem q80_26 {v0 : Nat} : ab_res scr 80 d M 26 [l0, l1, l2] (.ref v0 :: st) = (ab_gF ab_L0 M v0 11 0).bind fun v => ab_res scr 80 d M 29 [l0, l1, l2] (v :: st) := ab_o_getfield (ab_dc hc80 dX11_end_26) hk80 lk_fl_11_10
theorem q80_29 {x : Int32} : ab_res scr 80 d M 29 [l0, some (.int x), l2] (st) = ab_res scr 80 d M 30 [l0, some (.int x), l2] (.int x :: st) := ab_o_iload_n (ab_dc hc80 dX11_end_29) rfl
theorem q80_30 {v0 : Int32} {v1 : Nat} (hb : (ab_rc ab_L0 v1 = some 10) = True) : ab_res scr 80 2 M 30 [l0, l1, l2] ([.int v0, .ref v1]) = (ab_ms scr 70 [.ref v1, .int v0] M).bind fun o => ab_res scr 80 2 o.1 33 [l0, l1, l2] (ab_pr o.2 []) := ab_o_virtual (ab_dc hc80 dX11_end_30) hk80 lk_ca_11_89 hm70 (Nat.le_of_ble_eq_true rfl) rfl rfl rfl (of_eq_true hb) rfl rfl
theorem q80_33 {x : Int32} : ab_res scr 80 d M 33 [l0, l1, some (.int x)] (st) = ab_res scr 80 d M 34 [l0, l1, some (.int x)] (.int x :: st) := ab_o_iload_n (ab_dc hc80 dX11_end_33) rfl
theorem q80_34 {v0 : Int32} : ab_res scr 80 d M 34 [l0, l1, l2] ([.int v0]) = some (M, some (.int v0)) := ab_o_ireturn (ab_dc hc80 dX11_end_34) hr80 rfl
end Q80
theorem hc81 : ab_code 81 = cX11_table := rfl
theorem hn81 : ab_nL 81 = 2 := rfl
theorem hk81 : ab_ky 81 = 11 := rfl
theorem hr81 : ab_ret 81 = some .int := rfl
section Q81
variable {scr : Option (List Int32)} {d : Nat} {M : ab_M} {st : List Value} {l0 l1 : Option Value}
theorem q81_0 {xr : Nat} : ab_res scr 81 d M 0 [some (.ref xr), l1] (st) = ab_res scr 81 d M 1 [some (.ref xr), l1] (.ref xr :: st) := ab_o_aload_n (ab_dc hc81 dX11_table_0) rfl
theorem q81_1 {v0 : Nat} : ab_res scr 81 d M 1 [l0, l1] (.ref v0 :: st) = (ab_gF ab_L0 M v0 11 1).bind fun v => ab_res scr 81 d M 4 [l0, l1] (v :: st) := ab_o_getfield (ab_dc hc81 dX11_table_1) hk81 lk_fl_11_21
theorem q81_4 {v0 : Nat} (hb : (ab_rc ab_L0 v0 = some 9) = True) : ab_res scr 81 10 M 4 [l0, l1] ([.ref v0]) = (ab_ms scr 60 [.ref v0] M).bind fun o => ab_res scr 81 10 o.1 7 [l0, l1] (ab_pr o.2 []) := ab_o_virtual (ab_dc hc81 dX11_table_4) hk81 lk_ca_11_93 hm60 (Nat.le_of_ble_eq_true rfl) rfl rfl rfl (of_eq_true hb) rfl rfl
theorem q81_7 {v0 : Int32} : ab_res scr 81 d M 7 [l0, l1] (.int v0 :: st) = ab_res scr 81 d M 8 [ab_nl l0, some (.int v0)] (st) := (ab_o_st1 (k := 1) (ab_dc hc81 dX11_table_7) (Or.inr (Or.inr (Or.inl ⟨1, rfl, rfl, rfl, ⟨_, rfl⟩⟩))) hn81 (by decide)).trans (ab_kl1 [] _ l0 rfl rfl)
theorem q81_8 {xr : Nat} : ab_res scr 81 d M 8 [some (.ref xr), l1] (st) = ab_res scr 81 d M 9 [some (.ref xr), l1] (.ref xr :: st) := ab_o_aload_n (ab_dc hc81 dX11_table_8) rfl
theorem q81_9 {v0 : Nat} : ab_res scr 81 d M 9 [l0, l1] (.ref v0 :: st) = (ab_gF ab_L0 M v0 11 0).bind fun v => ab_res scr 81 d M 12 [l0, l1] (v :: st) := ab_o_getfield (ab_dc hc81 dX11_table_9) hk81 lk_fl_11_10
theorem q81_12 : ab_res scr 81 d M 12 [l0, l1] (st) = ab_res scr 81 d M 13 [l0, l1] (.int 0 :: st) := (ab_o_iconst (ab_dc hc81 dX11_table_12)).trans (by rw [ki_iconst_0])
theorem q81_13 {v0 : Int32} {v1 : Nat} (hb : (ab_rc ab_L0 v1 = some 10) = True) : ab_res scr 81 10 M 13 [l0, l1] ([.int v0, .ref v1]) = (ab_ms scr 70 [.ref v1, .int v0] M).bind fun o => ab_res scr 81 10 o.1 16 [l0, l1] (ab_pr o.2 []) := ab_o_virtual (ab_dc hc81 dX11_table_13) hk81 lk_ca_11_89 hm70 (Nat.le_of_ble_eq_true rfl) rfl rfl rfl (of_eq_true hb) rfl rfl
theorem q81_16 {xr : Nat} : ab_res scr 81 d M 16 [some (.ref xr), l1] (st) = ab_res scr 81 d M 17 [some (.ref xr), l1] (.ref xr :: st) := ab_o_aload_n (ab_dc hc81 dX11_table_16) rfl
theorem q81_17 {v0 : Nat} : ab_res scr 81 d M 17 [l0, l1] (.ref v0 :: st) = (ab_gF ab_L0 M v0 11 1).bind fun v => ab_res scr 81 d M 20 [l0, l1] (v :: st) := ab_o_getfield (ab_dc hc81 dX11_table_17) hk81 lk_fl_11_21
theorem q81_20 {v0 : Nat} : ab_res scr 81 d M 20 [l0, l1] (.ref v0 :: st) = (ab_gF ab_L0 M v0 9 2).bind fun v => ab_res scr 81 d M 23 [l0, l1] (v :: st) := ab_o_getfield (ab_dc hc81 dX11_table_20) hk81 lk_fl_11_97
theorem q81_23 {v0 : Int32} : ab_res scr 81 d M 23 [l0, l1] (.int v0 :: st) = if v0 = 0 then ab_res scr 81 d M 37 [l0, l1] (st) else ab_res scr 81 d M 26 [l0, l1] (st) := ab_o_br2 (off := 14) (ab_dc hc81 dX11_table_23) (by decide) rfl rfl
theorem q81_26 : ab_res scr 81 d M 26 [l0, l1] (st) = ab_res scr 81 d M 28 [l0, l1] (.int (-10) :: st) := (ab_o_bipush (ab_dc hc81 dX11_table_26)).trans (by rw [ki_bipush_m10])
theorem q81_28 {xr : Nat} : ab_res scr 81 d M 28 [some (.ref xr), l1] (st) = ab_res scr 81 d M 29 [some (.ref xr), l1] (.ref xr :: st) := ab_o_aload_n (ab_dc hc81 dX11_table_28) rfl
theorem q81_29 {v0 : Nat} : ab_res scr 81 d M 29 [l0, l1] (.ref v0 :: st) = (ab_gF ab_L0 M v0 11 1).bind fun v => ab_res scr 81 d M 32 [l0, l1] (v :: st) := ab_o_getfield (ab_dc hc81 dX11_table_29) hk81 lk_fl_11_21
theorem q81_32 {v0 : Nat} : ab_res scr 81 d M 32 [l0, l1] (.ref v0 :: st) = (ab_gF ab_L0 M v0 9 3).bind fun v => ab_res scr 81 d M 35 [l0, l1] (v :: st) := ab_o_getfield (ab_dc hc81 dX11_table_32) hk81 lk_fl_11_100
theorem q81_35 {v0 : Int32} {v1 : Int32} : ab_res scr 81 d M 35 [l0, l1] (.int v0 :: .int v1 :: st) = ab_res scr 81 d M 36 [l0, l1] (.int (v1 - v0) :: st) := ab_xg (ab_dc hc81 dX11_table_35) rfl rfl
theorem q81_36 {v0 : Int32} : ab_res scr 81 d M 36 [l0, l1] ([.int v0]) = some (M, some (.int v0)) := ab_o_ireturn (ab_dc hc81 dX11_table_36) hr81 rfl
theorem q81_37 {xr : Nat} : ab_res scr 81 d M 37 [some (.ref xr), l1] (st) = ab_res scr 81 d M 38 [some (.ref xr), l1] (.ref xr :: st) := ab_o_aload_n (ab_dc hc81 dX11_table_37) rfl
theorem q81_38 {v0 : Nat} : ab_res scr 81 d M 38 [l0, l1] (.ref v0 :: st) = (ab_gF ab_L0 M v0 11 2).bind fun v => ab_res scr 81 d M 41 [l0, l1] (v :: st) := ab_o_getfield (ab_dc hc81 dX11_table_38) hk81 lk_fl_11_28
theorem q81_41 {xr : Nat} : ab_res scr 81 d M 41 [some (.ref xr), l1] (st) = ab_res scr 81 d M 42 [some (.ref xr), l1] (.ref xr :: st) := ab_o_aload_n (ab_dc hc81 dX11_table_41) rfl
theorem q81_42 {v0 : Nat} : ab_res scr 81 d M 42 [l0, l1] (.ref v0 :: st) = (ab_gF ab_L0 M v0 11 1).bind fun v => ab_res scr 81 d M 45 [l0, l1] (v :: st) := ab_o_getfield (ab_dc hc81 dX11_table_42) hk81 lk_fl_11_21
theorem q81_45 {v0 : Nat} : ab_res scr 81 d M 45 [l0, l1] (.ref v0 :: st) = (ab_gF ab_L0 M v0 9 0).bind fun v => ab_res scr 81 d M 48 [l0, l1] (v :: st) := ab_o_getfield (ab_dc hc81 dX11_table_45) hk81 lk_fl_11_103
theorem q81_48 {v0 : Nat} {v1 : Nat} (hb : (ab_rc ab_L0 v1 = some 4) = True) : ab_res scr 81 10 M 48 [l0, l1] ([.ref v0, .ref v1]) = (ab_ms scr 41 [.ref v1, .ref v0] M).bind fun o => ab_res scr 81 10 o.1 51 [l0, l1] (ab_pr o.2 []) := ab_o_virtual (ab_dc hc81 dX11_table_48) hk81 lk_ca_11_106 hm41 (Nat.le_of_ble_eq_true rfl) rfl rfl rfl (of_eq_true hb) rfl rfl
theorem q81_51 {x : Int32} : ab_res scr 81 d M 51 [l0, some (.int x)] (st) = ab_res scr 81 d M 52 [l0, some (.int x)] (.int x :: st) := ab_o_iload_n (ab_dc hc81 dX11_table_51) rfl
theorem q81_52 {v0 : Int32} : ab_res scr 81 d M 52 [l0, l1] ([.int v0]) = some (M, some (.int v0)) := ab_o_ireturn (ab_dc hc81 dX11_table_52) hr81 rfl
end Q81
theorem hc82 : ab_code 82 = cX11_fault := rfl
theorem hn82 : ab_nL 82 = 1 := rfl
theorem hk82 : ab_ky 82 = 11 := rfl
theorem hr82 : ab_ret 82 = some .int := rfl
section Q82
variable {scr : Option (List Int32)} {d : Nat} {M : ab_M} {st : List Value} {l0 : Option Value}
theorem q82_0 {xr : Nat} : ab_res scr 82 d M 0 [some (.ref xr)] (st) = ab_res scr 82 d M 1 [some (.ref xr)] (.ref xr :: st) := ab_o_aload_n (ab_dc hc82 dX11_fault_0) rfl
theorem q82_1 {v0 : Nat} : ab_res scr 82 d M 1 [l0] (.ref v0 :: st) = (ab_gF ab_L0 M v0 11 1).bind fun v => ab_res scr 82 d M 4 [l0] (v :: st) := ab_o_getfield (ab_dc hc82 dX11_fault_1) hk82 lk_fl_11_21
theorem q82_4 {v0 : Nat} : ab_res scr 82 d M 4 [l0] (.ref v0 :: st) = (ab_gF ab_L0 M v0 9 2).bind fun v => ab_res scr 82 d M 7 [l0] (v :: st) := ab_o_getfield (ab_dc hc82 dX11_fault_4) hk82 lk_fl_11_97
theorem q82_7 {v0 : Int32} : ab_res scr 82 d M 7 [l0] ([.int v0]) = some (M, some (.int v0)) := ab_o_ireturn (ab_dc hc82 dX11_fault_7) hr82 rfl
end Q82
theorem hc83 : ab_code 83 = cX11_one := rfl
theorem hn83 : ab_nL 83 = 3 := rfl
theorem hk83 : ab_ky 83 = 11 := rfl
theorem hr83 : ab_ret 83 = some .int := rfl
section Q83
variable {scr : Option (List Int32)} {d : Nat} {M : ab_M} {st : List Value} {l0 l1 l2 : Option Value}
theorem q83_0 {xr : Nat} : ab_res scr 83 d M 0 [some (.ref xr), l1, l2] (st) = ab_res scr 83 d M 1 [some (.ref xr), l1, l2] (.ref xr :: st) := ab_o_aload_n (ab_dc hc83 dX11_one_0) rfl
theorem q83_1 {v0 : Nat} : ab_res scr 83 d M 1 [l0, l1, l2] (.ref v0 :: st) = (ab_gF ab_L0 M v0 11 2).bind fun v => ab_res scr 83 d M 4 [l0, l1, l2] (v :: st) := ab_o_getfield (ab_dc hc83 dX11_one_1) hk83 lk_fl_11_28
theorem q83_4 {x : Int32} : ab_res scr 83 d M 4 [l0, some (.int x), l2] (st) = ab_res scr 83 d M 5 [l0, some (.int x), l2] (.int x :: st) := ab_o_iload_n (ab_dc hc83 dX11_one_4) rfl
theorem q83_5 {v0 : Int32} {v1 : Nat} (hb : (ab_rc ab_L0 v1 = some 4) = True) : ab_res scr 83 2 M 5 [l0, l1, l2] ([.int v0, .ref v1]) = (ab_ms scr 38 [.ref v1, .int v0] M).bind fun o => ab_res scr 83 2 o.1 8 [l0, l1, l2] (ab_pr o.2 []) := ab_o_virtual (ab_dc hc83 dX11_one_5) hk83 lk_ca_11_109 hm38 (Nat.le_of_ble_eq_true rfl) rfl rfl rfl (of_eq_true hb) rfl rfl
theorem q83_8 {v0 : Int32} : ab_res scr 83 d M 8 [l0, l1, l2] (.int v0 :: st) = if v0 = 0 then ab_res scr 83 d M 20 [l0, l1, l2] (st) else ab_res scr 83 d M 11 [l0, l1, l2] (st) := ab_o_br2 (off := 12) (ab_dc hc83 dX11_one_8) (by decide) rfl rfl
theorem q83_11 {x : Int32} : ab_res scr 83 d M 11 [l0, l1, some (.int x)] (st) = ab_res scr 83 d M 12 [l0, l1, some (.int x)] (.int x :: st) := ab_o_iload_n (ab_dc hc83 dX11_one_11) rfl
theorem q83_12 : ab_res scr 83 d M 12 [l0, l1, l2] (st) = ab_res scr 83 d M 14 [l0, l1, l2] (.int 8 :: st) := (ab_o_bipush (ab_dc hc83 dX11_one_12)).trans (by rw [ki_bipush_8])
theorem q83_14 {v0 : Int32} {v1 : Int32} : ab_res scr 83 2 M 14 [l0, l1, l2] ([.int v0, .int v1]) = (ab_ms scr 111 [.int v1, .int v0] M).bind fun o => ab_res scr 83 2 o.1 17 [l0, l1, l2] (ab_pr o.2 []) := ab_o_static (ab_dc hc83 dX11_one_14) hk83 lk_ca_11_113 hm111 (Nat.le_of_ble_eq_true rfl) rfl rfl rfl rfl rfl
theorem q83_17 {v0 : Int32} : ab_res scr 83 d M 17 [l0, l1, l2] (.int v0 :: st) = if ¬ v0 = 0 then ab_res scr 83 d M 23 [l0, l1, l2] (st) else ab_res scr 83 d M 20 [l0, l1, l2] (st) := ab_o_br2 (off := 6) (ab_dc hc83 dX11_one_17) (by decide) rfl rfl
theorem q83_20 : ab_res scr 83 d M 20 [l0, l1, l2] (st) = ab_res scr 83 d M 22 [l0, l1, l2] (.int (-1000000) :: st) := ab_o_ldc (ab_dc hc83 dX11_one_20) hk83 lk_ko_11_117
theorem q83_22 {v0 : Int32} : ab_res scr 83 d M 22 [l0, l1, l2] ([.int v0]) = some (M, some (.int v0)) := ab_o_ireturn (ab_dc hc83 dX11_one_22) hr83 rfl
theorem q83_23 {xr : Nat} : ab_res scr 83 d M 23 [some (.ref xr), l1, l2] (st) = ab_res scr 83 d M 24 [some (.ref xr), l1, l2] (.ref xr :: st) := ab_o_aload_n (ab_dc hc83 dX11_one_23) rfl
theorem q83_24 {v0 : Nat} : ab_res scr 83 d M 24 [l0, l1, l2] (.ref v0 :: st) = (ab_gF ab_L0 M v0 11 2).bind fun v => ab_res scr 83 d M 27 [l0, l1, l2] (v :: st) := ab_o_getfield (ab_dc hc83 dX11_one_24) hk83 lk_fl_11_28
theorem q83_27 {v0 : Nat} : ab_res scr 83 d M 27 [l0, l1, l2] (.ref v0 :: st) = (ab_gF ab_L0 M v0 4 0).bind fun v => ab_res scr 83 d M 30 [l0, l1, l2] (v :: st) := ab_o_getfield (ab_dc hc83 dX11_one_27) hk83 lk_fl_11_118
theorem q83_30 {x : Int32} : ab_res scr 83 d M 30 [l0, l1, some (.int x)] (st) = ab_res scr 83 d M 31 [l0, l1, some (.int x)] (.int x :: st) := ab_o_iload_n (ab_dc hc83 dX11_one_30) rfl
theorem q83_31 {v0 : Int32} {v1 : Nat} : ab_res scr 83 d M 31 [l0, l1, l2] (.int v0 :: .ref v1 :: st) = (ab_qe v1 v0).bind fun v => ab_res scr 83 d M 32 [l0, l1, l2] (v :: st) := ab_o_aaload (ab_dc hc83 dX11_one_31)
theorem q83_32 {x : Int32} : ab_res scr 83 d M 32 [l0, some (.int x), l2] (st) = ab_res scr 83 d M 33 [l0, some (.int x), l2] (.int x :: st) := ab_o_iload_n (ab_dc hc83 dX11_one_32) rfl
theorem q83_33 {v0 : Int32} {v1 : Nat} : ab_res scr 83 d M 33 [l0, l1, l2] (.int v0 :: .ref v1 :: st) = (ab_ald scr ab_L0 M v1 .int v0).bind fun v => ab_res scr 83 d M 34 [l0, l1, l2] (.int v :: st) := ab_o_iaload (ab_dc hc83 dX11_one_33)
theorem q83_34 {v0 : Int32} : ab_res scr 83 d M 34 [l0, l1, l2] ([.int v0]) = some (M, some (.int v0)) := ab_o_ireturn (ab_dc hc83 dX11_one_34) hr83 rfl
end Q83
theorem hc84 : ab_code 84 = cX11_set := rfl
theorem hn84 : ab_nL 84 = 5 := rfl
theorem hk84 : ab_ky 84 = 11 := rfl
theorem hr84 : ab_ret 84 = some .int := rfl
section Q84
variable {scr : Option (List Int32)} {d : Nat} {M : ab_M} {st : List Value} {l0 l1 l2 l3 l4 : Option Value}
theorem q84_0 {xr : Nat} : ab_res scr 84 d M 0 [some (.ref xr), l1, l2, l3, l4] (st) = ab_res scr 84 d M 1 [some (.ref xr), l1, l2, l3, l4] (.ref xr :: st) := ab_o_aload_n (ab_dc hc84 dX11_set_0) rfl
theorem q84_1 {v0 : Nat} : ab_res scr 84 d M 1 [l0, l1, l2, l3, l4] (.ref v0 :: st) = (ab_gF ab_L0 M v0 11 2).bind fun v => ab_res scr 84 d M 4 [l0, l1, l2, l3, l4] (v :: st) := ab_o_getfield (ab_dc hc84 dX11_set_1) hk84 lk_fl_11_28
theorem q84_4 {x : Int32} : ab_res scr 84 d M 4 [l0, some (.int x), l2, l3, l4] (st) = ab_res scr 84 d M 5 [l0, some (.int x), l2, l3, l4] (.int x :: st) := ab_o_iload_n (ab_dc hc84 dX11_set_4) rfl
theorem q84_5 {v0 : Int32} {v1 : Nat} (hb : (ab_rc ab_L0 v1 = some 4) = True) : ab_res scr 84 2 M 5 [l0, l1, l2, l3, l4] ([.int v0, .ref v1]) = (ab_ms scr 38 [.ref v1, .int v0] M).bind fun o => ab_res scr 84 2 o.1 8 [l0, l1, l2, l3, l4] (ab_pr o.2 []) := ab_o_virtual (ab_dc hc84 dX11_set_5) hk84 lk_ca_11_109 hm38 (Nat.le_of_ble_eq_true rfl) rfl rfl rfl (of_eq_true hb) rfl rfl
theorem q84_8 {v0 : Int32} : ab_res scr 84 d M 8 [l0, l1, l2, l3, l4] (.int v0 :: st) = if v0 = 0 then ab_res scr 84 d M 33 [l0, l1, l2, l3, l4] (st) else ab_res scr 84 d M 11 [l0, l1, l2, l3, l4] (st) := ab_o_br2 (off := 25) (ab_dc hc84 dX11_set_8) (by decide) rfl rfl
theorem q84_11 {x : Int32} : ab_res scr 84 d M 11 [l0, l1, some (.int x), l3, l4] (st) = ab_res scr 84 d M 12 [l0, l1, some (.int x), l3, l4] (.int x :: st) := ab_o_iload_n (ab_dc hc84 dX11_set_11) rfl
theorem q84_12 : ab_res scr 84 d M 12 [l0, l1, l2, l3, l4] (st) = ab_res scr 84 d M 14 [l0, l1, l2, l3, l4] (.int 8 :: st) := (ab_o_bipush (ab_dc hc84 dX11_set_12)).trans (by rw [ki_bipush_8])
theorem q84_14 {v0 : Int32} {v1 : Int32} : ab_res scr 84 2 M 14 [l0, l1, l2, l3, l4] ([.int v0, .int v1]) = (ab_ms scr 111 [.int v1, .int v0] M).bind fun o => ab_res scr 84 2 o.1 17 [l0, l1, l2, l3, l4] (ab_pr o.2 []) := ab_o_static (ab_dc hc84 dX11_set_14) hk84 lk_ca_11_113 hm111 (Nat.le_of_ble_eq_true rfl) rfl rfl rfl rfl rfl
theorem q84_17 {v0 : Int32} : ab_res scr 84 d M 17 [l0, l1, l2, l3, l4] (.int v0 :: st) = if v0 = 0 then ab_res scr 84 d M 33 [l0, l1, l2, l3, l4] (st) else ab_res scr 84 d M 20 [l0, l1, l2, l3, l4] (st) := ab_o_br2 (off := 16) (ab_dc hc84 dX11_set_17) (by decide) rfl rfl
theorem q84_20 {xr : Nat} : ab_res scr 84 d M 20 [some (.ref xr), l1, l2, l3, l4] (st) = ab_res scr 84 d M 21 [some (.ref xr), l1, l2, l3, l4] (.ref xr :: st) := ab_o_aload_n (ab_dc hc84 dX11_set_20) rfl
theorem q84_21 {v0 : Nat} : ab_res scr 84 d M 21 [l0, l1, l2, l3, l4] (.ref v0 :: st) = (ab_gF ab_L0 M v0 11 2).bind fun v => ab_res scr 84 d M 24 [l0, l1, l2, l3, l4] (v :: st) := ab_o_getfield (ab_dc hc84 dX11_set_21) hk84 lk_fl_11_28
theorem q84_24 {x : Int32} : ab_res scr 84 d M 24 [l0, some (.int x), l2, l3, l4] (st) = ab_res scr 84 d M 25 [l0, some (.int x), l2, l3, l4] (.int x :: st) := ab_o_iload_n (ab_dc hc84 dX11_set_24) rfl
theorem q84_25 {x : Int32} : ab_res scr 84 d M 25 [l0, l1, some (.int x), l3, l4] (st) = ab_res scr 84 d M 26 [l0, l1, some (.int x), l3, l4] (.int x :: st) := ab_o_iload_n (ab_dc hc84 dX11_set_25) rfl
theorem q84_26 {x : Int32} : ab_res scr 84 d M 26 [l0, l1, l2, some (.int x), l4] (st) = ab_res scr 84 d M 27 [l0, l1, l2, some (.int x), l4] (.int x :: st) := ab_o_iload_n (ab_dc hc84 dX11_set_26) rfl
theorem q84_27 {v0 : Int32} {v1 : Int32} {v2 : Int32} {v3 : Nat} (hb : (ab_rc ab_L0 v3 = some 4) = True) : ab_res scr 84 2 M 27 [l0, l1, l2, l3, l4] ([.int v0, .int v1, .int v2, .ref v3]) = (ab_ms scr 42 [.ref v3, .int v2, .int v1, .int v0] M).bind fun o => ab_res scr 84 2 o.1 30 [l0, l1, l2, l3, l4] (ab_pr o.2 []) := ab_o_virtual (ab_dc hc84 dX11_set_27) hk84 lk_ca_11_122 hm42 (Nat.le_of_ble_eq_true rfl) rfl rfl rfl (of_eq_true hb) rfl rfl
theorem q84_30 {v0 : Int32} : ab_res scr 84 d M 30 [l0, l1, l2, l3, l4] (.int v0 :: st) = if ¬ v0 = 0 then ab_res scr 84 d M 36 [l0, l1, l2, l3, l4] (st) else ab_res scr 84 d M 33 [l0, l1, l2, l3, l4] (st) := ab_o_br2 (off := 6) (ab_dc hc84 dX11_set_30) (by decide) rfl rfl
theorem q84_33 : ab_res scr 84 d M 33 [l0, l1, l2, l3, l4] (st) = ab_res scr 84 d M 35 [l0, l1, l2, l3, l4] (.int (-1000000) :: st) := ab_o_ldc (ab_dc hc84 dX11_set_33) hk84 lk_ko_11_117
theorem q84_35 {v0 : Int32} : ab_res scr 84 d M 35 [l0, l1, l2, l3, l4] ([.int v0]) = some (M, some (.int v0)) := ab_o_ireturn (ab_dc hc84 dX11_set_35) hr84 rfl
theorem q84_36 {xr : Nat} : ab_res scr 84 d M 36 [some (.ref xr), l1, l2, l3, l4] (st) = ab_res scr 84 d M 37 [some (.ref xr), l1, l2, l3, l4] (.ref xr :: st) := ab_o_aload_n (ab_dc hc84 dX11_set_36) rfl
theorem q84_37 {v0 : Nat} : ab_res scr 84 d M 37 [l0, l1, l2, l3, l4] (.ref v0 :: st) = (ab_gF ab_L0 M v0 11 2).bind fun v => ab_res scr 84 d M 40 [l0, l1, l2, l3, l4] (v :: st) := ab_o_getfield (ab_dc hc84 dX11_set_37) hk84 lk_fl_11_28
theorem q84_40 {v0 : Nat} : ab_res scr 84 d M 40 [l0, l1, l2, l3, l4] (.ref v0 :: st) = (ab_gF ab_L0 M v0 4 0).bind fun v => ab_res scr 84 d M 43 [l0, l1, l2, l3, l4] (v :: st) := ab_o_getfield (ab_dc hc84 dX11_set_40) hk84 lk_fl_11_118
theorem q84_43 {x : Int32} : ab_res scr 84 d M 43 [l0, l1, some (.int x), l3, l4] (st) = ab_res scr 84 d M 44 [l0, l1, some (.int x), l3, l4] (.int x :: st) := ab_o_iload_n (ab_dc hc84 dX11_set_43) rfl
theorem q84_44 {v0 : Int32} {v1 : Nat} : ab_res scr 84 d M 44 [l0, l1, l2, l3, l4] (.int v0 :: .ref v1 :: st) = (ab_qe v1 v0).bind fun v => ab_res scr 84 d M 45 [l0, l1, l2, l3, l4] (v :: st) := ab_o_aaload (ab_dc hc84 dX11_set_44)
theorem q84_45 {x : Int32} : ab_res scr 84 d M 45 [l0, some (.int x), l2, l3, l4] (st) = ab_res scr 84 d M 46 [l0, some (.int x), l2, l3, l4] (.int x :: st) := ab_o_iload_n (ab_dc hc84 dX11_set_45) rfl
theorem q84_46 {v0 : Int32} {v1 : Nat} : ab_res scr 84 d M 46 [l0, l1, l2, l3, l4] (.int v0 :: .ref v1 :: st) = (ab_ald scr ab_L0 M v1 .int v0).bind fun v => ab_res scr 84 d M 47 [l0, l1, l2, l3, l4] (.int v :: st) := ab_o_iaload (ab_dc hc84 dX11_set_46)
theorem q84_47 {v0 : Int32} : ab_res scr 84 d M 47 [l0, l1, l2, l3, l4] (.int v0 :: st) = ab_res scr 84 d M 49 [l0, l1, l2, ab_nl l3, some (.int v0)] (st) := (ab_o_st1 (k := 4) (ab_dc hc84 dX11_set_47) (Or.inl ⟨rfl, rfl, ⟨_, rfl⟩⟩) hn84 (by decide)).trans (ab_kl1 [l0, l1, l2] _ l3 rfl rfl)
theorem q84_49 {xr : Nat} : ab_res scr 84 d M 49 [some (.ref xr), l1, l2, l3, l4] (st) = ab_res scr 84 d M 50 [some (.ref xr), l1, l2, l3, l4] (.ref xr :: st) := ab_o_aload_n (ab_dc hc84 dX11_set_49) rfl
theorem q84_50 {v0 : Nat} : ab_res scr 84 d M 50 [l0, l1, l2, l3, l4] (.ref v0 :: st) = (ab_gF ab_L0 M v0 11 2).bind fun v => ab_res scr 84 d M 53 [l0, l1, l2, l3, l4] (v :: st) := ab_o_getfield (ab_dc hc84 dX11_set_50) hk84 lk_fl_11_28
theorem q84_53 {v0 : Nat} : ab_res scr 84 d M 53 [l0, l1, l2, l3, l4] (.ref v0 :: st) = (ab_gF ab_L0 M v0 4 0).bind fun v => ab_res scr 84 d M 56 [l0, l1, l2, l3, l4] (v :: st) := ab_o_getfield (ab_dc hc84 dX11_set_53) hk84 lk_fl_11_118
theorem q84_56 {x : Int32} : ab_res scr 84 d M 56 [l0, l1, some (.int x), l3, l4] (st) = ab_res scr 84 d M 57 [l0, l1, some (.int x), l3, l4] (.int x :: st) := ab_o_iload_n (ab_dc hc84 dX11_set_56) rfl
theorem q84_57 {v0 : Int32} {v1 : Nat} : ab_res scr 84 d M 57 [l0, l1, l2, l3, l4] (.int v0 :: .ref v1 :: st) = (ab_qe v1 v0).bind fun v => ab_res scr 84 d M 58 [l0, l1, l2, l3, l4] (v :: st) := ab_o_aaload (ab_dc hc84 dX11_set_57)
theorem q84_58 {x : Int32} : ab_res scr 84 d M 58 [l0, some (.int x), l2, l3, l4] (st) = ab_res scr 84 d M 59 [l0, some (.int x), l2, l3, l4] (.int x :: st) := ab_o_iload_n (ab_dc hc84 dX11_set_58) rfl
theorem q84_59 {x : Int32} : ab_res scr 84 d M 59 [l0, l1, l2, some (.int x), l4] (st) = ab_res scr 84 d M 60 [l0, l1, l2, some (.int x), l4] (.int x :: st) := ab_o_iload_n (ab_dc hc84 dX11_set_59) rfl
theorem q84_60 {v0 : Int32} {v1 : Int32} {v2 : Nat} : ab_res scr 84 d M 60 [l0, l1, l2, l3, l4] (.int v0 :: .int v1 :: .ref v2 :: st) = if ab_si v2 .int v1 = true then ab_res scr 84 d (ab_up M v2 v1.toNatClampNeg v0) 61 [l0, l1, l2, l3, l4] (st) else none := ab_o_iastore (ab_dc hc84 dX11_set_60)
theorem q84_61 {x : Int32} : ab_res scr 84 d M 61 [l0, l1, l2, l3, some (.int x)] (st) = ab_res scr 84 d M 63 [l0, l1, l2, l3, some (.int x)] (.int x :: st) := ab_o_iload (ab_dc hc84 dX11_set_61) rfl
theorem q84_63 {v0 : Int32} : ab_res scr 84 d M 63 [l0, l1, l2, l3, l4] ([.int v0]) = some (M, some (.int v0)) := ab_o_ireturn (ab_dc hc84 dX11_set_63) hr84 rfl
end Q84
theorem hc85 : ab_code 85 = cX11_evening := rfl
theorem hn85 : ab_nL 85 = 4 := rfl
theorem hk85 : ab_ky 85 = 11 := rfl
theorem hr85 : ab_ret 85 = some .int := rfl
section Q85
variable {scr : Option (List Int32)} {d : Nat} {M : ab_M} {st : List Value} {l0 l1 l2 l3 : Option Value}
theorem q85_0 {x : Int32} : ab_res scr 85 d M 0 [l0, some (.int x), l2, l3] (st) = ab_res scr 85 d M 1 [l0, some (.int x), l2, l3] (.int x :: st) := ab_o_iload_n (ab_dc hc85 dX11_evening_0) rfl
theorem q85_1 : ab_res scr 85 d M 1 [l0, l1, l2, l3] (st) = ab_res scr 85 d M 3 [l0, l1, l2, l3] (.int 7 :: st) := (ab_o_bipush (ab_dc hc85 dX11_evening_1)).trans (by rw [ki_bipush_7])
theorem q85_3 {v0 : Int32} {v1 : Int32} : ab_res scr 85 8 M 3 [l0, l1, l2, l3] ([.int v0, .int v1]) = (ab_ms scr 111 [.int v1, .int v0] M).bind fun o => ab_res scr 85 8 o.1 6 [l0, l1, l2, l3] (ab_pr o.2 []) := ab_o_static (ab_dc hc85 dX11_evening_3) hk85 lk_ca_11_113 hm111 (Nat.le_of_ble_eq_true rfl) rfl rfl rfl rfl rfl
theorem q85_6 {v0 : Int32} : ab_res scr 85 d M 6 [l0, l1, l2, l3] (.int v0 :: st) = if v0 = 0 then ab_res scr 85 d M 18 [l0, l1, l2, l3] (st) else ab_res scr 85 d M 9 [l0, l1, l2, l3] (st) := ab_o_br2 (off := 12) (ab_dc hc85 dX11_evening_6) (by decide) rfl rfl
theorem q85_9 {x : Int32} : ab_res scr 85 d M 9 [l0, l1, l2, some (.int x)] (st) = ab_res scr 85 d M 10 [l0, l1, l2, some (.int x)] (.int x :: st) := ab_o_iload_n (ab_dc hc85 dX11_evening_9) rfl
theorem q85_10 : ab_res scr 85 d M 10 [l0, l1, l2, l3] (st) = ab_res scr 85 d M 12 [l0, l1, l2, l3] (.int 7 :: st) := (ab_o_bipush (ab_dc hc85 dX11_evening_10)).trans (by rw [ki_bipush_7])
theorem q85_12 {v0 : Int32} {v1 : Int32} : ab_res scr 85 8 M 12 [l0, l1, l2, l3] ([.int v0, .int v1]) = (ab_ms scr 111 [.int v1, .int v0] M).bind fun o => ab_res scr 85 8 o.1 15 [l0, l1, l2, l3] (ab_pr o.2 []) := ab_o_static (ab_dc hc85 dX11_evening_12) hk85 lk_ca_11_113 hm111 (Nat.le_of_ble_eq_true rfl) rfl rfl rfl rfl rfl
theorem q85_15 {v0 : Int32} : ab_res scr 85 d M 15 [l0, l1, l2, l3] (.int v0 :: st) = if ¬ v0 = 0 then ab_res scr 85 d M 20 [l0, l1, l2, l3] (st) else ab_res scr 85 d M 18 [l0, l1, l2, l3] (st) := ab_o_br2 (off := 5) (ab_dc hc85 dX11_evening_15) (by decide) rfl rfl
theorem q85_18 : ab_res scr 85 d M 18 [l0, l1, l2, l3] (st) = ab_res scr 85 d M 19 [l0, l1, l2, l3] (.int (-1) :: st) := (ab_o_iconst (ab_dc hc85 dX11_evening_18)).trans (by rw [ki_iconst_m1])
theorem q85_19 {v0 : Int32} : ab_res scr 85 d M 19 [l0, l1, l2, l3] ([.int v0]) = some (M, some (.int v0)) := ab_o_ireturn (ab_dc hc85 dX11_evening_19) hr85 rfl
theorem q85_20 {xr : Nat} : ab_res scr 85 d M 20 [some (.ref xr), l1, l2, l3] (st) = ab_res scr 85 d M 21 [some (.ref xr), l1, l2, l3] (.ref xr :: st) := ab_o_aload_n (ab_dc hc85 dX11_evening_20) rfl
theorem q85_21 {x : Int32} : ab_res scr 85 d M 21 [l0, some (.int x), l2, l3] (st) = ab_res scr 85 d M 22 [l0, some (.int x), l2, l3] (.int x :: st) := ab_o_iload_n (ab_dc hc85 dX11_evening_21) rfl
theorem q85_22 {x : Int32} : ab_res scr 85 d M 22 [l0, l1, some (.int x), l3] (st) = ab_res scr 85 d M 23 [l0, l1, some (.int x), l3] (.int x :: st) := ab_o_iload_n (ab_dc hc85 dX11_evening_22) rfl
theorem q85_23 {v0 : Int32} {v1 : Int32} {v2 : Nat} (hb : (ab_rc ab_L0 v2 = some 11) = True) : ab_res scr 85 8 M 23 [l0, l1, l2, l3] ([.int v0, .int v1, .ref v2]) = (ab_ms scr 113 [.ref v2, .int v1, .int v0] M).bind fun o => ab_res scr 85 8 o.1 26 [l0, l1, l2, l3] (ab_pr o.2 []) := ab_o_virtual (ab_dc hc85 dX11_evening_23) hk85 lk_ca_11_126 hm113 (Nat.le_of_ble_eq_true rfl) rfl rfl rfl (of_eq_true hb) rfl rfl
theorem q85_26 {x : Int32} : ab_res scr 85 d M 26 [l0, l1, l2, some (.int x)] (st) = ab_res scr 85 d M 27 [l0, l1, l2, some (.int x)] (.int x :: st) := ab_o_iload_n (ab_dc hc85 dX11_evening_26) rfl
theorem q85_64 {xr : Nat} : ab_res scr 85 d M 64 [some (.ref xr), l1, l2, l3] (st) = ab_res scr 85 d M 65 [some (.ref xr), l1, l2, l3] (.ref xr :: st) := ab_o_aload_n (ab_dc hc85 dX11_evening_64) rfl
theorem q85_65 {v0 : Nat} : ab_res scr 85 d M 65 [l0, l1, l2, l3] (.ref v0 :: st) = (ab_gF ab_L0 M v0 11 5).bind fun v => ab_res scr 85 d M 68 [l0, l1, l2, l3] (v :: st) := ab_o_getfield (ab_dc hc85 dX11_evening_65) hk85 lk_fl_11_49
theorem q85_68 {v0 : Nat} : ab_res scr 85 d M 68 [l0, l1, l2, l3] (.ref v0 :: st) = (ab_gF ab_L0 M v0 1 3).bind fun v => ab_res scr 85 d M 71 [l0, l1, l2, l3] (v :: st) := ab_o_getfield (ab_dc hc85 dX11_evening_68) hk85 lk_fl_11_130
theorem q85_71 {v0 : Int32} : ab_res scr 85 d M 71 [l0, l1, l2, l3] ([.int v0]) = some (M, some (.int v0)) := ab_o_ireturn (ab_dc hc85 dX11_evening_71) hr85 rfl
theorem q85_72 {xr : Nat} : ab_res scr 85 d M 72 [some (.ref xr), l1, l2, l3] (st) = ab_res scr 85 d M 73 [some (.ref xr), l1, l2, l3] (.ref xr :: st) := ab_o_aload_n (ab_dc hc85 dX11_evening_72) rfl
theorem q85_73 {v0 : Nat} : ab_res scr 85 d M 73 [l0, l1, l2, l3] (.ref v0 :: st) = (ab_gF ab_L0 M v0 11 5).bind fun v => ab_res scr 85 d M 76 [l0, l1, l2, l3] (v :: st) := ab_o_getfield (ab_dc hc85 dX11_evening_73) hk85 lk_fl_11_49
theorem q85_76 {v0 : Nat} : ab_res scr 85 d M 76 [l0, l1, l2, l3] (.ref v0 :: st) = (ab_gF ab_L0 M v0 1 4).bind fun v => ab_res scr 85 d M 79 [l0, l1, l2, l3] (v :: st) := ab_o_getfield (ab_dc hc85 dX11_evening_76) hk85 lk_fl_11_133
theorem q85_79 {v0 : Int32} : ab_res scr 85 d M 79 [l0, l1, l2, l3] ([.int v0]) = some (M, some (.int v0)) := ab_o_ireturn (ab_dc hc85 dX11_evening_79) hr85 rfl
theorem q85_80 {xr : Nat} : ab_res scr 85 d M 80 [some (.ref xr), l1, l2, l3] (st) = ab_res scr 85 d M 81 [some (.ref xr), l1, l2, l3] (.ref xr :: st) := ab_o_aload_n (ab_dc hc85 dX11_evening_80) rfl
theorem q85_81 {v0 : Nat} : ab_res scr 85 d M 81 [l0, l1, l2, l3] (.ref v0 :: st) = (ab_gF ab_L0 M v0 11 5).bind fun v => ab_res scr 85 d M 84 [l0, l1, l2, l3] (v :: st) := ab_o_getfield (ab_dc hc85 dX11_evening_81) hk85 lk_fl_11_49
theorem q85_84 {v0 : Nat} (hb : (ab_rc ab_L0 v0 = some 1) = True) : ab_res scr 85 8 M 84 [l0, l1, l2, l3] ([.ref v0]) = (ab_ms scr 32 [.ref v0] M).bind fun o => ab_res scr 85 8 o.1 87 [l0, l1, l2, l3] (ab_pr o.2 []) := ab_o_virtual (ab_dc hc85 dX11_evening_84) hk85 lk_ca_11_136 hm32 (Nat.le_of_ble_eq_true rfl) rfl rfl rfl (of_eq_true hb) rfl rfl
theorem q85_87 {v0 : Int32} : ab_res scr 85 d M 87 [l0, l1, l2, l3] ([.int v0]) = some (M, some (.int v0)) := ab_o_ireturn (ab_dc hc85 dX11_evening_87) hr85 rfl
theorem q85_88 {xr : Nat} : ab_res scr 85 d M 88 [some (.ref xr), l1, l2, l3] (st) = ab_res scr 85 d M 89 [some (.ref xr), l1, l2, l3] (.ref xr :: st) := ab_o_aload_n (ab_dc hc85 dX11_evening_88) rfl
theorem q85_89 {v0 : Nat} : ab_res scr 85 d M 89 [l0, l1, l2, l3] (.ref v0 :: st) = (ab_gF ab_L0 M v0 11 5).bind fun v => ab_res scr 85 d M 92 [l0, l1, l2, l3] (v :: st) := ab_o_getfield (ab_dc hc85 dX11_evening_89) hk85 lk_fl_11_49
theorem q85_92 {v0 : Nat} (hb : (ab_rc ab_L0 v0 = some 1) = True) : ab_res scr 85 8 M 92 [l0, l1, l2, l3] ([.ref v0]) = (ab_ms scr 33 [.ref v0] M).bind fun o => ab_res scr 85 8 o.1 95 [l0, l1, l2, l3] (ab_pr o.2 []) := ab_o_virtual (ab_dc hc85 dX11_evening_92) hk85 lk_ca_11_139 hm33 (Nat.le_of_ble_eq_true rfl) rfl rfl rfl (of_eq_true hb) rfl rfl
theorem q85_95 {v0 : Int32} : ab_res scr 85 d M 95 [l0, l1, l2, l3] ([.int v0]) = some (M, some (.int v0)) := ab_o_ireturn (ab_dc hc85 dX11_evening_95) hr85 rfl
theorem q85_96 {xr : Nat} : ab_res scr 85 d M 96 [some (.ref xr), l1, l2, l3] (st) = ab_res scr 85 d M 97 [some (.ref xr), l1, l2, l3] (.ref xr :: st) := ab_o_aload_n (ab_dc hc85 dX11_evening_96) rfl
theorem q85_97 {v0 : Nat} : ab_res scr 85 d M 97 [l0, l1, l2, l3] (.ref v0 :: st) = (ab_gF ab_L0 M v0 11 5).bind fun v => ab_res scr 85 d M 100 [l0, l1, l2, l3] (v :: st) := ab_o_getfield (ab_dc hc85 dX11_evening_97) hk85 lk_fl_11_49
theorem q85_100 {v0 : Nat} : ab_res scr 85 d M 100 [l0, l1, l2, l3] (.ref v0 :: st) = (ab_gF ab_L0 M v0 1 5).bind fun v => ab_res scr 85 d M 103 [l0, l1, l2, l3] (v :: st) := ab_o_getfield (ab_dc hc85 dX11_evening_100) hk85 lk_fl_11_142
theorem q85_103 {v0 : Int32} : ab_res scr 85 d M 103 [l0, l1, l2, l3] ([.int v0]) = some (M, some (.int v0)) := ab_o_ireturn (ab_dc hc85 dX11_evening_103) hr85 rfl
theorem q85_104 {xr : Nat} : ab_res scr 85 d M 104 [some (.ref xr), l1, l2, l3] (st) = ab_res scr 85 d M 105 [some (.ref xr), l1, l2, l3] (.ref xr :: st) := ab_o_aload_n (ab_dc hc85 dX11_evening_104) rfl
theorem q85_105 {v0 : Nat} : ab_res scr 85 d M 105 [l0, l1, l2, l3] (.ref v0 :: st) = (ab_gF ab_L0 M v0 11 5).bind fun v => ab_res scr 85 d M 108 [l0, l1, l2, l3] (v :: st) := ab_o_getfield (ab_dc hc85 dX11_evening_105) hk85 lk_fl_11_49
theorem q85_108 {v0 : Nat} : ab_res scr 85 d M 108 [l0, l1, l2, l3] (.ref v0 :: st) = (ab_gF ab_L0 M v0 1 6).bind fun v => ab_res scr 85 d M 111 [l0, l1, l2, l3] (v :: st) := ab_o_getfield (ab_dc hc85 dX11_evening_108) hk85 lk_fl_11_145
theorem q85_111 {v0 : Int32} : ab_res scr 85 d M 111 [l0, l1, l2, l3] ([.int v0]) = some (M, some (.int v0)) := ab_o_ireturn (ab_dc hc85 dX11_evening_111) hr85 rfl
theorem q85_112 {xr : Nat} : ab_res scr 85 d M 112 [some (.ref xr), l1, l2, l3] (st) = ab_res scr 85 d M 113 [some (.ref xr), l1, l2, l3] (.ref xr :: st) := ab_o_aload_n (ab_dc hc85 dX11_evening_112) rfl
theorem q85_113 {v0 : Nat} : ab_res scr 85 d M 113 [l0, l1, l2, l3] (.ref v0 :: st) = (ab_gF ab_L0 M v0 11 5).bind fun v => ab_res scr 85 d M 116 [l0, l1, l2, l3] (v :: st) := ab_o_getfield (ab_dc hc85 dX11_evening_113) hk85 lk_fl_11_49
theorem q85_116 {v0 : Nat} : ab_res scr 85 d M 116 [l0, l1, l2, l3] (.ref v0 :: st) = (ab_gF ab_L0 M v0 1 7).bind fun v => ab_res scr 85 d M 119 [l0, l1, l2, l3] (v :: st) := ab_o_getfield (ab_dc hc85 dX11_evening_116) hk85 lk_fl_11_148
theorem q85_119 {v0 : Int32} : ab_res scr 85 d M 119 [l0, l1, l2, l3] ([.int v0]) = some (M, some (.int v0)) := ab_o_ireturn (ab_dc hc85 dX11_evening_119) hr85 rfl
end Q85
section S85_27
variable {scr : Option (List Int32)} {d : Nat} {M : ab_M} {st : List Value} {l0 l1 l2 l3 : Option Value}
theorem q85_27 {v0 : Int32} : ab_res scr 85 d M 27 [l0, l1, l2, l3] (.int v0 :: st) = if v0 = 0 then ab_res scr 85 d M 64 [l0, l1, l2, l3] (st) else if v0 = 1 then ab_res scr 85 d M 72 [l0, l1, l2, l3] (st) else if v0 = 2 then ab_res scr 85 d M 80 [l0, l1, l2, l3] (st) else if v0 = 3 then ab_res scr 85 d M 88 [l0, l1, l2, l3] (st) else if v0 = 4 then ab_res scr 85 d M 96 [l0, l1, l2, l3] (st) else if v0 = 5 then ab_res scr 85 d M 104 [l0, l1, l2, l3] (st) else ab_res scr 85 d M 112 [l0, l1, l2, l3] (st) := by
  by_cases h0 : v0 = 0
  · rw [if_pos h0, h0]
    exact ab_xg (ab_dc hc85 dX11_evening_27) rfl rfl
  by_cases h1 : v0 = 1
  · rw [if_neg h0, if_pos h1, h1]
    exact ab_xg (ab_dc hc85 dX11_evening_27) rfl rfl
  by_cases h2 : v0 = 2
  · rw [if_neg h0, if_neg h1, if_pos h2, h2]
    exact ab_xg (ab_dc hc85 dX11_evening_27) rfl rfl
  by_cases h3 : v0 = 3
  · rw [if_neg h0, if_neg h1, if_neg h2, if_pos h3, h3]
    exact ab_xg (ab_dc hc85 dX11_evening_27) rfl rfl
  by_cases h4 : v0 = 4
  · rw [if_neg h0, if_neg h1, if_neg h2, if_neg h3, if_pos h4, h4]
    exact ab_xg (ab_dc hc85 dX11_evening_27) rfl rfl
  by_cases h5 : v0 = 5
  · rw [if_neg h0, if_neg h1, if_neg h2, if_neg h3, if_neg h4, if_pos h5, h5]
    exact ab_xg (ab_dc hc85 dX11_evening_27) rfl rfl
  rw [if_neg h0, if_neg h1, if_neg h2, if_neg h3, if_neg h4, if_neg h5]
  have hx : v0.toInt < 0 ∨ 5 < v0.toInt := by
    have e0 : v0.toInt ≠ 0 := fun q => h0 (Int32.toInt_inj.mp (q.trans (by decide)))
    have e1 : v0.toInt ≠ 1 := fun q => h1 (Int32.toInt_inj.mp (q.trans (by decide)))
    have e2 : v0.toInt ≠ 2 := fun q => h2 (Int32.toInt_inj.mp (q.trans (by decide)))
    have e3 : v0.toInt ≠ 3 := fun q => h3 (Int32.toInt_inj.mp (q.trans (by decide)))
    have e4 : v0.toInt ≠ 4 := fun q => h4 (Int32.toInt_inj.mp (q.trans (by decide)))
    have e5 : v0.toInt ≠ 5 := fun q => h5 (Int32.toInt_inj.mp (q.trans (by decide)))
    omega
  refine ab_xg (ab_dc hc85 dX11_evening_27) rfl ?_
  show (if v0.toInt < 0 ∨ 5 < v0.toInt then ab_jm ab_L0 M 27 (85) [l0, l1, l2, l3] st else _) = _
  rw [if_pos hx]
  rfl
end S85_27
theorem hc86 : ab_code 86 = cX11_round := rfl
theorem hn86 : ab_nL 86 = 6 := rfl
theorem hk86 : ab_ky 86 = 11 := rfl
theorem hr86 : ab_ret 86 = some .int := rfl
section Q86
variable {scr : Option (List Int32)} {d : Nat} {M : ab_M} {st : List Value} {l0 l1 l2 l3 l4 l5 : Option Value}
theorem q86_0 {x : Int32} : ab_res scr 86 d M 0 [l0, some (.int x), l2, l3, l4, l5] (st) = ab_res scr 86 d M 1 [l0, some (.int x), l2, l3, l4, l5] (.int x :: st) := ab_o_iload_n (ab_dc hc86 dX11_round_0) rfl
theorem q86_1 : ab_res scr 86 d M 1 [l0, l1, l2, l3, l4, l5] (st) = ab_res scr 86 d M 3 [l0, l1, l2, l3, l4, l5] (.int 7 :: st) := (ab_o_bipush (ab_dc hc86 dX11_round_1)).trans (by rw [ki_bipush_7])
theorem q86_3 {v0 : Int32} {v1 : Int32} : ab_res scr 86 8 M 3 [l0, l1, l2, l3, l4, l5] ([.int v0, .int v1]) = (ab_ms scr 111 [.int v1, .int v0] M).bind fun o => ab_res scr 86 8 o.1 6 [l0, l1, l2, l3, l4, l5] (ab_pr o.2 []) := ab_o_static (ab_dc hc86 dX11_round_3) hk86 lk_ca_11_113 hm111 (Nat.le_of_ble_eq_true rfl) rfl rfl rfl rfl rfl
theorem q86_6 {v0 : Int32} : ab_res scr 86 d M 6 [l0, l1, l2, l3, l4, l5] (.int v0 :: st) = if v0 = 0 then ab_res scr 86 d M 18 [l0, l1, l2, l3, l4, l5] (st) else ab_res scr 86 d M 9 [l0, l1, l2, l3, l4, l5] (st) := ab_o_br2 (off := 12) (ab_dc hc86 dX11_round_6) (by decide) rfl rfl
theorem q86_9 {x : Int32} : ab_res scr 86 d M 9 [l0, l1, l2, l3, some (.int x), l5] (st) = ab_res scr 86 d M 11 [l0, l1, l2, l3, some (.int x), l5] (.int x :: st) := ab_o_iload (ab_dc hc86 dX11_round_9) rfl
theorem q86_11 : ab_res scr 86 d M 11 [l0, l1, l2, l3, l4, l5] (st) = ab_res scr 86 d M 12 [l0, l1, l2, l3, l4, l5] (.int 5 :: st) := (ab_o_iconst (ab_dc hc86 dX11_round_11)).trans (by rw [ki_iconst_5])
theorem q86_12 {v0 : Int32} {v1 : Int32} : ab_res scr 86 8 M 12 [l0, l1, l2, l3, l4, l5] ([.int v0, .int v1]) = (ab_ms scr 111 [.int v1, .int v0] M).bind fun o => ab_res scr 86 8 o.1 15 [l0, l1, l2, l3, l4, l5] (ab_pr o.2 []) := ab_o_static (ab_dc hc86 dX11_round_12) hk86 lk_ca_11_113 hm111 (Nat.le_of_ble_eq_true rfl) rfl rfl rfl rfl rfl
theorem q86_15 {v0 : Int32} : ab_res scr 86 d M 15 [l0, l1, l2, l3, l4, l5] (.int v0 :: st) = if ¬ v0 = 0 then ab_res scr 86 d M 20 [l0, l1, l2, l3, l4, l5] (st) else ab_res scr 86 d M 18 [l0, l1, l2, l3, l4, l5] (st) := ab_o_br2 (off := 5) (ab_dc hc86 dX11_round_15) (by decide) rfl rfl
theorem q86_18 : ab_res scr 86 d M 18 [l0, l1, l2, l3, l4, l5] (st) = ab_res scr 86 d M 19 [l0, l1, l2, l3, l4, l5] (.int (-1) :: st) := (ab_o_iconst (ab_dc hc86 dX11_round_18)).trans (by rw [ki_iconst_m1])
theorem q86_19 {v0 : Int32} : ab_res scr 86 d M 19 [l0, l1, l2, l3, l4, l5] ([.int v0]) = some (M, some (.int v0)) := ab_o_ireturn (ab_dc hc86 dX11_round_19) hr86 rfl
theorem q86_20 {xr : Nat} : ab_res scr 86 d M 20 [some (.ref xr), l1, l2, l3, l4, l5] (st) = ab_res scr 86 d M 21 [some (.ref xr), l1, l2, l3, l4, l5] (.ref xr :: st) := ab_o_aload_n (ab_dc hc86 dX11_round_20) rfl
theorem q86_21 {x : Int32} : ab_res scr 86 d M 21 [l0, some (.int x), l2, l3, l4, l5] (st) = ab_res scr 86 d M 22 [l0, some (.int x), l2, l3, l4, l5] (.int x :: st) := ab_o_iload_n (ab_dc hc86 dX11_round_21) rfl
theorem q86_22 {x : Int32} : ab_res scr 86 d M 22 [l0, l1, some (.int x), l3, l4, l5] (st) = ab_res scr 86 d M 23 [l0, l1, some (.int x), l3, l4, l5] (.int x :: st) := ab_o_iload_n (ab_dc hc86 dX11_round_22) rfl
theorem q86_23 {v0 : Int32} {v1 : Int32} {v2 : Nat} (hb : (ab_rc ab_L0 v2 = some 11) = True) : ab_res scr 86 8 M 23 [l0, l1, l2, l3, l4, l5] ([.int v0, .int v1, .ref v2]) = (ab_ms scr 113 [.ref v2, .int v1, .int v0] M).bind fun o => ab_res scr 86 8 o.1 26 [l0, l1, l2, l3, l4, l5] (ab_pr o.2 []) := ab_o_virtual (ab_dc hc86 dX11_round_23) hk86 lk_ca_11_126 hm113 (Nat.le_of_ble_eq_true rfl) rfl rfl rfl (of_eq_true hb) rfl rfl
theorem q86_26 {x : Int32} : ab_res scr 86 d M 26 [l0, l1, l2, some (.int x), l4, l5] (st) = ab_res scr 86 d M 27 [l0, l1, l2, some (.int x), l4, l5] (.int x :: st) := ab_o_iload_n (ab_dc hc86 dX11_round_26) rfl
theorem q86_27 {xr : Nat} : ab_res scr 86 d M 27 [some (.ref xr), l1, l2, l3, l4, l5] (st) = ab_res scr 86 d M 28 [some (.ref xr), l1, l2, l3, l4, l5] (.ref xr :: st) := ab_o_aload_n (ab_dc hc86 dX11_round_27) rfl
theorem q86_28 {v0 : Nat} : ab_res scr 86 d M 28 [l0, l1, l2, l3, l4, l5] (.ref v0 :: st) = (ab_gF ab_L0 M v0 11 5).bind fun v => ab_res scr 86 d M 31 [l0, l1, l2, l3, l4, l5] (v :: st) := ab_o_getfield (ab_dc hc86 dX11_round_28) hk86 lk_fl_11_49
theorem q86_31 {v0 : Nat} : ab_res scr 86 d M 31 [l0, l1, l2, l3, l4, l5] (.ref v0 :: st) = (ab_gF ab_L0 M v0 1 3).bind fun v => ab_res scr 86 d M 34 [l0, l1, l2, l3, l4, l5] (v :: st) := ab_o_getfield (ab_dc hc86 dX11_round_31) hk86 lk_fl_11_130
theorem q86_34 {v0 : Int32} {v1 : Int32} : ab_res scr 86 8 M 34 [l0, l1, l2, l3, l4, l5] ([.int v0, .int v1]) = (ab_ms scr 111 [.int v1, .int v0] M).bind fun o => ab_res scr 86 8 o.1 37 [l0, l1, l2, l3, l4, l5] (ab_pr o.2 []) := ab_o_static (ab_dc hc86 dX11_round_34) hk86 lk_ca_11_113 hm111 (Nat.le_of_ble_eq_true rfl) rfl rfl rfl rfl rfl
theorem q86_37 {v0 : Int32} : ab_res scr 86 d M 37 [l0, l1, l2, l3, l4, l5] (.int v0 :: st) = if ¬ v0 = 0 then ab_res scr 86 d M 42 [l0, l1, l2, l3, l4, l5] (st) else ab_res scr 86 d M 40 [l0, l1, l2, l3, l4, l5] (st) := ab_o_br2 (off := 5) (ab_dc hc86 dX11_round_37) (by decide) rfl rfl
theorem q86_40 : ab_res scr 86 d M 40 [l0, l1, l2, l3, l4, l5] (st) = ab_res scr 86 d M 41 [l0, l1, l2, l3, l4, l5] (.int (-1) :: st) := (ab_o_iconst (ab_dc hc86 dX11_round_40)).trans (by rw [ki_iconst_m1])
theorem q86_41 {v0 : Int32} : ab_res scr 86 d M 41 [l0, l1, l2, l3, l4, l5] ([.int v0]) = some (M, some (.int v0)) := ab_o_ireturn (ab_dc hc86 dX11_round_41) hr86 rfl
theorem q86_42 {xr : Nat} : ab_res scr 86 d M 42 [some (.ref xr), l1, l2, l3, l4, l5] (st) = ab_res scr 86 d M 43 [some (.ref xr), l1, l2, l3, l4, l5] (.ref xr :: st) := ab_o_aload_n (ab_dc hc86 dX11_round_42) rfl
theorem q86_43 {v0 : Nat} : ab_res scr 86 d M 43 [l0, l1, l2, l3, l4, l5] (.ref v0 :: st) = (ab_gF ab_L0 M v0 11 5).bind fun v => ab_res scr 86 d M 46 [l0, l1, l2, l3, l4, l5] (v :: st) := ab_o_getfield (ab_dc hc86 dX11_round_43) hk86 lk_fl_11_49
theorem q86_46 {v0 : Nat} : ab_res scr 86 d M 46 [l0, l1, l2, l3, l4, l5] (.ref v0 :: st) = (ab_gF ab_L0 M v0 1 2).bind fun v => ab_res scr 86 d M 49 [l0, l1, l2, l3, l4, l5] (v :: st) := ab_o_getfield (ab_dc hc86 dX11_round_46) hk86 lk_fl_11_151
theorem q86_49 {x : Int32} : ab_res scr 86 d M 49 [l0, l1, l2, some (.int x), l4, l5] (st) = ab_res scr 86 d M 50 [l0, l1, l2, some (.int x), l4, l5] (.int x :: st) := ab_o_iload_n (ab_dc hc86 dX11_round_49) rfl
theorem q86_50 {v0 : Int32} {v1 : Nat} : ab_res scr 86 d M 50 [l0, l1, l2, l3, l4, l5] (.int v0 :: .ref v1 :: st) = (ab_qe v1 v0).bind fun v => ab_res scr 86 d M 51 [l0, l1, l2, l3, l4, l5] (v :: st) := ab_o_aaload (ab_dc hc86 dX11_round_50)
theorem q86_51 {v0 : Nat} : ab_res scr 86 d M 51 [l0, l1, l2, l3, l4, l5] (.ref v0 :: st) = ab_res scr 86 d M 53 [l0, l1, l2, l3, ab_nl l4, some (.ref v0)] (st) := (ab_o_st1 (k := 5) (ab_dc hc86 dX11_round_51) (Or.inr (Or.inl ⟨rfl, rfl, ⟨_, rfl⟩⟩)) hn86 (by decide)).trans (ab_kl1 [l0, l1, l2, l3] _ l4 rfl rfl)
theorem q86_53 {x : Int32} : ab_res scr 86 d M 53 [l0, l1, l2, l3, some (.int x), l5] (st) = ab_res scr 86 d M 55 [l0, l1, l2, l3, some (.int x), l5] (.int x :: st) := ab_o_iload (ab_dc hc86 dX11_round_53) rfl
theorem q86_84 {xr : Nat} : ab_res scr 86 d M 84 [l0, l1, l2, l3, l4, some (.ref xr)] (st) = ab_res scr 86 d M 86 [l0, l1, l2, l3, l4, some (.ref xr)] (.ref xr :: st) := ab_o_aload (ab_dc hc86 dX11_round_84) rfl
theorem q86_86 {v0 : Nat} : ab_res scr 86 d M 86 [l0, l1, l2, l3, l4, l5] (.ref v0 :: st) = (ab_gF ab_L0 M v0 6 0).bind fun v => ab_res scr 86 d M 89 [l0, l1, l2, l3, l4, l5] (v :: st) := ab_o_getfield (ab_dc hc86 dX11_round_86) hk86 lk_fl_11_155
theorem q86_89 {v0 : Int32} : ab_res scr 86 d M 89 [l0, l1, l2, l3, l4, l5] ([.int v0]) = some (M, some (.int v0)) := ab_o_ireturn (ab_dc hc86 dX11_round_89) hr86 rfl
theorem q86_90 {xr : Nat} : ab_res scr 86 d M 90 [l0, l1, l2, l3, l4, some (.ref xr)] (st) = ab_res scr 86 d M 92 [l0, l1, l2, l3, l4, some (.ref xr)] (.ref xr :: st) := ab_o_aload (ab_dc hc86 dX11_round_90) rfl
theorem q86_92 {v0 : Nat} : ab_res scr 86 d M 92 [l0, l1, l2, l3, l4, l5] (.ref v0 :: st) = (ab_gF ab_L0 M v0 6 1).bind fun v => ab_res scr 86 d M 95 [l0, l1, l2, l3, l4, l5] (v :: st) := ab_o_getfield (ab_dc hc86 dX11_round_92) hk86 lk_fl_11_160
theorem q86_95 {v0 : Int32} : ab_res scr 86 d M 95 [l0, l1, l2, l3, l4, l5] ([.int v0]) = some (M, some (.int v0)) := ab_o_ireturn (ab_dc hc86 dX11_round_95) hr86 rfl
theorem q86_96 {xr : Nat} : ab_res scr 86 d M 96 [l0, l1, l2, l3, l4, some (.ref xr)] (st) = ab_res scr 86 d M 98 [l0, l1, l2, l3, l4, some (.ref xr)] (.ref xr :: st) := ab_o_aload (ab_dc hc86 dX11_round_96) rfl
theorem q86_98 {v0 : Nat} : ab_res scr 86 d M 98 [l0, l1, l2, l3, l4, l5] (.ref v0 :: st) = (ab_gF ab_L0 M v0 6 2).bind fun v => ab_res scr 86 d M 101 [l0, l1, l2, l3, l4, l5] (v :: st) := ab_o_getfield (ab_dc hc86 dX11_round_98) hk86 lk_fl_11_163
theorem q86_101 {v0 : Int32} : ab_res scr 86 d M 101 [l0, l1, l2, l3, l4, l5] ([.int v0]) = some (M, some (.int v0)) := ab_o_ireturn (ab_dc hc86 dX11_round_101) hr86 rfl
theorem q86_102 {xr : Nat} : ab_res scr 86 d M 102 [l0, l1, l2, l3, l4, some (.ref xr)] (st) = ab_res scr 86 d M 104 [l0, l1, l2, l3, l4, some (.ref xr)] (.ref xr :: st) := ab_o_aload (ab_dc hc86 dX11_round_102) rfl
theorem q86_104 {v0 : Nat} : ab_res scr 86 d M 104 [l0, l1, l2, l3, l4, l5] (.ref v0 :: st) = (ab_gF ab_L0 M v0 6 3).bind fun v => ab_res scr 86 d M 107 [l0, l1, l2, l3, l4, l5] (v :: st) := ab_o_getfield (ab_dc hc86 dX11_round_104) hk86 lk_fl_11_164
theorem q86_107 {v0 : Int32} : ab_res scr 86 d M 107 [l0, l1, l2, l3, l4, l5] ([.int v0]) = some (M, some (.int v0)) := ab_o_ireturn (ab_dc hc86 dX11_round_107) hr86 rfl
theorem q86_108 {xr : Nat} : ab_res scr 86 d M 108 [l0, l1, l2, l3, l4, some (.ref xr)] (st) = ab_res scr 86 d M 110 [l0, l1, l2, l3, l4, some (.ref xr)] (.ref xr :: st) := ab_o_aload (ab_dc hc86 dX11_round_108) rfl
theorem q86_110 {v0 : Nat} : ab_res scr 86 d M 110 [l0, l1, l2, l3, l4, l5] (.ref v0 :: st) = (ab_gF ab_L0 M v0 6 4).bind fun v => ab_res scr 86 d M 113 [l0, l1, l2, l3, l4, l5] (v :: st) := ab_o_getfield (ab_dc hc86 dX11_round_110) hk86 lk_fl_11_167
theorem q86_113 {v0 : Int32} : ab_res scr 86 d M 113 [l0, l1, l2, l3, l4, l5] ([.int v0]) = some (M, some (.int v0)) := ab_o_ireturn (ab_dc hc86 dX11_round_113) hr86 rfl
end Q86
section S86_55
variable {scr : Option (List Int32)} {d : Nat} {M : ab_M} {st : List Value} {l0 l1 l2 l3 l4 l5 : Option Value}
theorem q86_55 {v0 : Int32} : ab_res scr 86 d M 55 [l0, l1, l2, l3, l4, l5] (.int v0 :: st) = if v0 = 0 then ab_res scr 86 d M 84 [l0, l1, l2, l3, l4, l5] (st) else if v0 = 1 then ab_res scr 86 d M 90 [l0, l1, l2, l3, l4, l5] (st) else if v0 = 2 then ab_res scr 86 d M 96 [l0, l1, l2, l3, l4, l5] (st) else if v0 = 3 then ab_res scr 86 d M 102 [l0, l1, l2, l3, l4, l5] (st) else ab_res scr 86 d M 108 [l0, l1, l2, l3, l4, l5] (st) := by
  by_cases h0 : v0 = 0
  · rw [if_pos h0, h0]
    exact ab_xg (ab_dc hc86 dX11_round_55) rfl rfl
  by_cases h1 : v0 = 1
  · rw [if_neg h0, if_pos h1, h1]
    exact ab_xg (ab_dc hc86 dX11_round_55) rfl rfl
  by_cases h2 : v0 = 2
  · rw [if_neg h0, if_neg h1, if_pos h2, h2]
    exact ab_xg (ab_dc hc86 dX11_round_55) rfl rfl
  by_cases h3 : v0 = 3
  · rw [if_neg h0, if_neg h1, if_neg h2, if_pos h3, h3]
    exact ab_xg (ab_dc hc86 dX11_round_55) rfl rfl
  rw [if_neg h0, if_neg h1, if_neg h2, if_neg h3]
  have hx : v0.toInt < 0 ∨ 3 < v0.toInt := by
    have e0 : v0.toInt ≠ 0 := fun q => h0 (Int32.toInt_inj.mp (q.trans (by decide)))
    have e1 : v0.toInt ≠ 1 := fun q => h1 (Int32.toInt_inj.mp (q.trans (by decide)))
    have e2 : v0.toInt ≠ 2 := fun q => h2 (Int32.toInt_inj.mp (q.trans (by decide)))
    have e3 : v0.toInt ≠ 3 := fun q => h3 (Int32.toInt_inj.mp (q.trans (by decide)))
    omega
  refine ab_xg (ab_dc hc86 dX11_round_55) rfl ?_
  show (if v0.toInt < 0 ∨ 3 < v0.toInt then ab_jm ab_L0 M 55 (53) [l0, l1, l2, l3, l4, l5] st else _) = _
  rw [if_pos hx]
  rfl
end S86_55
theorem hc87 : ab_code 87 = cX11_of := rfl
theorem hn87 : ab_nL 87 = 6 := rfl
theorem hk87 : ab_ky 87 = 11 := rfl
theorem hr87 : ab_ret 87 = some .int := rfl
section Q87
variable {scr : Option (List Int32)} {d : Nat} {M : ab_M} {st : List Value} {l0 l1 l2 l3 l4 l5 : Option Value}
theorem q87_0 {x : Int32} : ab_res scr 87 d M 0 [l0, some (.int x), l2, l3, l4, l5] (st) = ab_res scr 87 d M 1 [l0, some (.int x), l2, l3, l4, l5] (.int x :: st) := ab_o_iload_n (ab_dc hc87 dX11_of_0) rfl
theorem q87_1 : ab_res scr 87 d M 1 [l0, l1, l2, l3, l4, l5] (st) = ab_res scr 87 d M 3 [l0, l1, l2, l3, l4, l5] (.int 7 :: st) := (ab_o_bipush (ab_dc hc87 dX11_of_1)).trans (by rw [ki_bipush_7])
theorem q87_3 {v0 : Int32} {v1 : Int32} : ab_res scr 87 8 M 3 [l0, l1, l2, l3, l4, l5] ([.int v0, .int v1]) = (ab_ms scr 111 [.int v1, .int v0] M).bind fun o => ab_res scr 87 8 o.1 6 [l0, l1, l2, l3, l4, l5] (ab_pr o.2 []) := ab_o_static (ab_dc hc87 dX11_of_3) hk87 lk_ca_11_113 hm111 (Nat.le_of_ble_eq_true rfl) rfl rfl rfl rfl rfl
theorem q87_6 {v0 : Int32} : ab_res scr 87 d M 6 [l0, l1, l2, l3, l4, l5] (.int v0 :: st) = if v0 = 0 then ab_res scr 87 d M 30 [l0, l1, l2, l3, l4, l5] (st) else ab_res scr 87 d M 9 [l0, l1, l2, l3, l4, l5] (st) := ab_o_br2 (off := 24) (ab_dc hc87 dX11_of_6) (by decide) rfl rfl
theorem q87_9 {xr : Nat} : ab_res scr 87 d M 9 [some (.ref xr), l1, l2, l3, l4, l5] (st) = ab_res scr 87 d M 10 [some (.ref xr), l1, l2, l3, l4, l5] (.ref xr :: st) := ab_o_aload_n (ab_dc hc87 dX11_of_9) rfl
theorem q87_10 {v0 : Nat} : ab_res scr 87 d M 10 [l0, l1, l2, l3, l4, l5] (.ref v0 :: st) = (ab_gF ab_L0 M v0 11 2).bind fun v => ab_res scr 87 d M 13 [l0, l1, l2, l3, l4, l5] (v :: st) := ab_o_getfield (ab_dc hc87 dX11_of_10) hk87 lk_fl_11_28
theorem q87_13 {x : Int32} : ab_res scr 87 d M 13 [l0, l1, l2, some (.int x), l4, l5] (st) = ab_res scr 87 d M 14 [l0, l1, l2, some (.int x), l4, l5] (.int x :: st) := ab_o_iload_n (ab_dc hc87 dX11_of_13) rfl
theorem q87_14 {v0 : Int32} {v1 : Nat} (hb : (ab_rc ab_L0 v1 = some 4) = True) : ab_res scr 87 8 M 14 [l0, l1, l2, l3, l4, l5] ([.int v0, .ref v1]) = (ab_ms scr 38 [.ref v1, .int v0] M).bind fun o => ab_res scr 87 8 o.1 17 [l0, l1, l2, l3, l4, l5] (ab_pr o.2 []) := ab_o_virtual (ab_dc hc87 dX11_of_14) hk87 lk_ca_11_109 hm38 (Nat.le_of_ble_eq_true rfl) rfl rfl rfl (of_eq_true hb) rfl rfl
theorem q87_17 {v0 : Int32} : ab_res scr 87 d M 17 [l0, l1, l2, l3, l4, l5] (.int v0 :: st) = if v0 = 0 then ab_res scr 87 d M 30 [l0, l1, l2, l3, l4, l5] (st) else ab_res scr 87 d M 20 [l0, l1, l2, l3, l4, l5] (st) := ab_o_br2 (off := 13) (ab_dc hc87 dX11_of_17) (by decide) rfl rfl
theorem q87_20 {x : Int32} : ab_res scr 87 d M 20 [l0, l1, l2, l3, some (.int x), l5] (st) = ab_res scr 87 d M 22 [l0, l1, l2, l3, some (.int x), l5] (.int x :: st) := ab_o_iload (ab_dc hc87 dX11_of_20) rfl
theorem q87_22 : ab_res scr 87 d M 22 [l0, l1, l2, l3, l4, l5] (st) = ab_res scr 87 d M 24 [l0, l1, l2, l3, l4, l5] (.int 7 :: st) := (ab_o_bipush (ab_dc hc87 dX11_of_22)).trans (by rw [ki_bipush_7])
theorem q87_24 {v0 : Int32} {v1 : Int32} : ab_res scr 87 8 M 24 [l0, l1, l2, l3, l4, l5] ([.int v0, .int v1]) = (ab_ms scr 111 [.int v1, .int v0] M).bind fun o => ab_res scr 87 8 o.1 27 [l0, l1, l2, l3, l4, l5] (ab_pr o.2 []) := ab_o_static (ab_dc hc87 dX11_of_24) hk87 lk_ca_11_113 hm111 (Nat.le_of_ble_eq_true rfl) rfl rfl rfl rfl rfl
theorem q87_27 {v0 : Int32} : ab_res scr 87 d M 27 [l0, l1, l2, l3, l4, l5] (.int v0 :: st) = if ¬ v0 = 0 then ab_res scr 87 d M 33 [l0, l1, l2, l3, l4, l5] (st) else ab_res scr 87 d M 30 [l0, l1, l2, l3, l4, l5] (st) := ab_o_br2 (off := 6) (ab_dc hc87 dX11_of_27) (by decide) rfl rfl
theorem q87_30 : ab_res scr 87 d M 30 [l0, l1, l2, l3, l4, l5] (st) = ab_res scr 87 d M 32 [l0, l1, l2, l3, l4, l5] (.int (-1000000) :: st) := ab_o_ldc (ab_dc hc87 dX11_of_30) hk87 lk_ko_11_117
theorem q87_32 {v0 : Int32} : ab_res scr 87 d M 32 [l0, l1, l2, l3, l4, l5] ([.int v0]) = some (M, some (.int v0)) := ab_o_ireturn (ab_dc hc87 dX11_of_32) hr87 rfl
theorem q87_33 {xr : Nat} : ab_res scr 87 d M 33 [some (.ref xr), l1, l2, l3, l4, l5] (st) = ab_res scr 87 d M 34 [some (.ref xr), l1, l2, l3, l4, l5] (.ref xr :: st) := ab_o_aload_n (ab_dc hc87 dX11_of_33) rfl
theorem q87_34 {x : Int32} : ab_res scr 87 d M 34 [l0, some (.int x), l2, l3, l4, l5] (st) = ab_res scr 87 d M 35 [l0, some (.int x), l2, l3, l4, l5] (.int x :: st) := ab_o_iload_n (ab_dc hc87 dX11_of_34) rfl
theorem q87_35 {x : Int32} : ab_res scr 87 d M 35 [l0, l1, some (.int x), l3, l4, l5] (st) = ab_res scr 87 d M 36 [l0, l1, some (.int x), l3, l4, l5] (.int x :: st) := ab_o_iload_n (ab_dc hc87 dX11_of_35) rfl
theorem q87_36 {v0 : Int32} {v1 : Int32} {v2 : Nat} (hb : (ab_rc ab_L0 v2 = some 11) = True) : ab_res scr 87 8 M 36 [l0, l1, l2, l3, l4, l5] ([.int v0, .int v1, .ref v2]) = (ab_ms scr 113 [.ref v2, .int v1, .int v0] M).bind fun o => ab_res scr 87 8 o.1 39 [l0, l1, l2, l3, l4, l5] (ab_pr o.2 []) := ab_o_virtual (ab_dc hc87 dX11_of_36) hk87 lk_ca_11_126 hm113 (Nat.le_of_ble_eq_true rfl) rfl rfl rfl (of_eq_true hb) rfl rfl
theorem q87_39 {xr : Nat} : ab_res scr 87 d M 39 [some (.ref xr), l1, l2, l3, l4, l5] (st) = ab_res scr 87 d M 40 [some (.ref xr), l1, l2, l3, l4, l5] (.ref xr :: st) := ab_o_aload_n (ab_dc hc87 dX11_of_39) rfl
theorem q87_40 {v0 : Nat} : ab_res scr 87 d M 40 [l0, l1, l2, l3, l4, l5] (.ref v0 :: st) = (ab_gF ab_L0 M v0 11 5).bind fun v => ab_res scr 87 d M 43 [l0, l1, l2, l3, l4, l5] (v :: st) := ab_o_getfield (ab_dc hc87 dX11_of_40) hk87 lk_fl_11_49
theorem q87_43 {v0 : Nat} : ab_res scr 87 d M 43 [l0, l1, l2, l3, l4, l5] (.ref v0 :: st) = (ab_gF ab_L0 M v0 1 1).bind fun v => ab_res scr 87 d M 46 [l0, l1, l2, l3, l4, l5] (v :: st) := ab_o_getfield (ab_dc hc87 dX11_of_43) hk87 lk_fl_11_170
theorem q87_46 {x : Int32} : ab_res scr 87 d M 46 [l0, l1, l2, some (.int x), l4, l5] (st) = ab_res scr 87 d M 47 [l0, l1, l2, some (.int x), l4, l5] (.int x :: st) := ab_o_iload_n (ab_dc hc87 dX11_of_46) rfl
theorem q87_47 {v0 : Int32} {v1 : Nat} : ab_res scr 87 d M 47 [l0, l1, l2, l3, l4, l5] (.int v0 :: .ref v1 :: st) = (ab_qe v1 v0).bind fun v => ab_res scr 87 d M 48 [l0, l1, l2, l3, l4, l5] (v :: st) := ab_o_aaload (ab_dc hc87 dX11_of_47)
theorem q87_48 {v0 : Nat} : ab_res scr 87 d M 48 [l0, l1, l2, l3, l4, l5] (.ref v0 :: st) = ab_res scr 87 d M 50 [l0, l1, l2, l3, ab_nl l4, some (.ref v0)] (st) := (ab_o_st1 (k := 5) (ab_dc hc87 dX11_of_48) (Or.inr (Or.inl ⟨rfl, rfl, ⟨_, rfl⟩⟩)) hn87 (by decide)).trans (ab_kl1 [l0, l1, l2, l3] _ l4 rfl rfl)
theorem q87_50 {x : Int32} : ab_res scr 87 d M 50 [l0, l1, l2, l3, some (.int x), l5] (st) = ab_res scr 87 d M 52 [l0, l1, l2, l3, some (.int x), l5] (.int x :: st) := ab_o_iload (ab_dc hc87 dX11_of_50) rfl
theorem q87_92 {xr : Nat} : ab_res scr 87 d M 92 [l0, l1, l2, l3, l4, some (.ref xr)] (st) = ab_res scr 87 d M 94 [l0, l1, l2, l3, l4, some (.ref xr)] (.ref xr :: st) := ab_o_aload (ab_dc hc87 dX11_of_92) rfl
theorem q87_94 {v0 : Nat} : ab_res scr 87 d M 94 [l0, l1, l2, l3, l4, l5] (.ref v0 :: st) = (ab_gF ab_L0 M v0 7 1).bind fun v => ab_res scr 87 d M 97 [l0, l1, l2, l3, l4, l5] (v :: st) := ab_o_getfield (ab_dc hc87 dX11_of_94) hk87 lk_fl_11_174
theorem q87_97 {v0 : Int32} : ab_res scr 87 d M 97 [l0, l1, l2, l3, l4, l5] ([.int v0]) = some (M, some (.int v0)) := ab_o_ireturn (ab_dc hc87 dX11_of_97) hr87 rfl
theorem q87_98 {xr : Nat} : ab_res scr 87 d M 98 [l0, l1, l2, l3, l4, some (.ref xr)] (st) = ab_res scr 87 d M 100 [l0, l1, l2, l3, l4, some (.ref xr)] (.ref xr :: st) := ab_o_aload (ab_dc hc87 dX11_of_98) rfl
theorem q87_100 {v0 : Nat} : ab_res scr 87 d M 100 [l0, l1, l2, l3, l4, l5] (.ref v0 :: st) = (ab_gF ab_L0 M v0 7 2).bind fun v => ab_res scr 87 d M 103 [l0, l1, l2, l3, l4, l5] (v :: st) := ab_o_getfield (ab_dc hc87 dX11_of_100) hk87 lk_fl_11_179
theorem q87_103 {v0 : Int32} : ab_res scr 87 d M 103 [l0, l1, l2, l3, l4, l5] ([.int v0]) = some (M, some (.int v0)) := ab_o_ireturn (ab_dc hc87 dX11_of_103) hr87 rfl
theorem q87_104 {xr : Nat} : ab_res scr 87 d M 104 [l0, l1, l2, l3, l4, some (.ref xr)] (st) = ab_res scr 87 d M 106 [l0, l1, l2, l3, l4, some (.ref xr)] (.ref xr :: st) := ab_o_aload (ab_dc hc87 dX11_of_104) rfl
theorem q87_106 {v0 : Nat} : ab_res scr 87 d M 106 [l0, l1, l2, l3, l4, l5] (.ref v0 :: st) = (ab_gF ab_L0 M v0 7 3).bind fun v => ab_res scr 87 d M 109 [l0, l1, l2, l3, l4, l5] (v :: st) := ab_o_getfield (ab_dc hc87 dX11_of_106) hk87 lk_fl_11_182
theorem q87_109 {v0 : Int32} : ab_res scr 87 d M 109 [l0, l1, l2, l3, l4, l5] ([.int v0]) = some (M, some (.int v0)) := ab_o_ireturn (ab_dc hc87 dX11_of_109) hr87 rfl
theorem q87_110 {xr : Nat} : ab_res scr 87 d M 110 [l0, l1, l2, l3, l4, some (.ref xr)] (st) = ab_res scr 87 d M 112 [l0, l1, l2, l3, l4, some (.ref xr)] (.ref xr :: st) := ab_o_aload (ab_dc hc87 dX11_of_110) rfl
theorem q87_112 {v0 : Nat} : ab_res scr 87 d M 112 [l0, l1, l2, l3, l4, l5] (.ref v0 :: st) = (ab_gF ab_L0 M v0 7 4).bind fun v => ab_res scr 87 d M 115 [l0, l1, l2, l3, l4, l5] (v :: st) := ab_o_getfield (ab_dc hc87 dX11_of_112) hk87 lk_fl_11_185
theorem q87_115 {v0 : Int32} : ab_res scr 87 d M 115 [l0, l1, l2, l3, l4, l5] ([.int v0]) = some (M, some (.int v0)) := ab_o_ireturn (ab_dc hc87 dX11_of_115) hr87 rfl
theorem q87_116 {xr : Nat} : ab_res scr 87 d M 116 [l0, l1, l2, l3, l4, some (.ref xr)] (st) = ab_res scr 87 d M 118 [l0, l1, l2, l3, l4, some (.ref xr)] (.ref xr :: st) := ab_o_aload (ab_dc hc87 dX11_of_116) rfl
theorem q87_118 {v0 : Nat} (hb : (ab_rc ab_L0 v0 = some 7) = True) : ab_res scr 87 8 M 118 [l0, l1, l2, l3, l4, l5] ([.ref v0]) = (ab_ms scr 53 [.ref v0] M).bind fun o => ab_res scr 87 8 o.1 121 [l0, l1, l2, l3, l4, l5] (ab_pr o.2 []) := ab_o_virtual (ab_dc hc87 dX11_of_118) hk87 lk_ca_11_188 hm53 (Nat.le_of_ble_eq_true rfl) rfl rfl rfl (of_eq_true hb) rfl rfl
theorem q87_121 {v0 : Int32} : ab_res scr 87 d M 121 [l0, l1, l2, l3, l4, l5] ([.int v0]) = some (M, some (.int v0)) := ab_o_ireturn (ab_dc hc87 dX11_of_121) hr87 rfl
theorem q87_122 {xr : Nat} : ab_res scr 87 d M 122 [l0, l1, l2, l3, l4, some (.ref xr)] (st) = ab_res scr 87 d M 124 [l0, l1, l2, l3, l4, some (.ref xr)] (.ref xr :: st) := ab_o_aload (ab_dc hc87 dX11_of_122) rfl
theorem q87_124 {v0 : Nat} (hb : (ab_rc ab_L0 v0 = some 7) = True) : ab_res scr 87 8 M 124 [l0, l1, l2, l3, l4, l5] ([.ref v0]) = (ab_ms scr 53 [.ref v0] M).bind fun o => ab_res scr 87 8 o.1 127 [l0, l1, l2, l3, l4, l5] (ab_pr o.2 []) := ab_o_virtual (ab_dc hc87 dX11_of_124) hk87 lk_ca_11_188 hm53 (Nat.le_of_ble_eq_true rfl) rfl rfl rfl (of_eq_true hb) rfl rfl
theorem q87_127 {v0 : Int32} : ab_res scr 87 d M 127 [l0, l1, l2, l3, l4, l5] ([.int v0]) = ab_res scr 87 d M 130 [l0, l1, l2, l3, l4, l5] (.int (if 0 ≤ v0 then v0 else 0 - v0) :: []) := ab_o_abs (ab_dc hc87 dX11_of_127) hk87 lk_cn_11_191 lk_ma_11_191 rfl
theorem q87_130 {v0 : Int32} : ab_res scr 87 d M 130 [l0, l1, l2, l3, l4, l5] ([.int v0]) = some (M, some (.int v0)) := ab_o_ireturn (ab_dc hc87 dX11_of_130) hr87 rfl
theorem q87_131 {xr : Nat} : ab_res scr 87 d M 131 [some (.ref xr), l1, l2, l3, l4, l5] (st) = ab_res scr 87 d M 132 [some (.ref xr), l1, l2, l3, l4, l5] (.ref xr :: st) := ab_o_aload_n (ab_dc hc87 dX11_of_131) rfl
theorem q87_132 {v0 : Nat} : ab_res scr 87 d M 132 [l0, l1, l2, l3, l4, l5] (.ref v0 :: st) = (ab_gF ab_L0 M v0 11 5).bind fun v => ab_res scr 87 d M 135 [l0, l1, l2, l3, l4, l5] (v :: st) := ab_o_getfield (ab_dc hc87 dX11_of_132) hk87 lk_fl_11_49
theorem q87_135 {x : Int32} : ab_res scr 87 d M 135 [l0, l1, l2, some (.int x), l4, l5] (st) = ab_res scr 87 d M 136 [l0, l1, l2, some (.int x), l4, l5] (.int x :: st) := ab_o_iload_n (ab_dc hc87 dX11_of_135) rfl
theorem q87_136 {v0 : Int32} {v1 : Nat} (hb : (ab_rc ab_L0 v1 = some 1) = True) : ab_res scr 87 8 M 136 [l0, l1, l2, l3, l4, l5] ([.int v0, .ref v1]) = (ab_ms scr 31 [.ref v1, .int v0] M).bind fun o => ab_res scr 87 8 o.1 139 [l0, l1, l2, l3, l4, l5] (ab_pr o.2 []) := ab_o_virtual (ab_dc hc87 dX11_of_136) hk87 lk_ca_11_197 hm31 (Nat.le_of_ble_eq_true rfl) rfl rfl rfl (of_eq_true hb) rfl rfl
theorem q87_139 {v0 : Int32} : ab_res scr 87 d M 139 [l0, l1, l2, l3, l4, l5] ([.int v0]) = some (M, some (.int v0)) := ab_o_ireturn (ab_dc hc87 dX11_of_139) hr87 rfl
end Q87
section S87_52
variable {scr : Option (List Int32)} {d : Nat} {M : ab_M} {st : List Value} {l0 l1 l2 l3 l4 l5 : Option Value}
theorem q87_52 {v0 : Int32} : ab_res scr 87 d M 52 [l0, l1, l2, l3, l4, l5] (.int v0 :: st) = if v0 = 0 then ab_res scr 87 d M 92 [l0, l1, l2, l3, l4, l5] (st) else if v0 = 1 then ab_res scr 87 d M 98 [l0, l1, l2, l3, l4, l5] (st) else if v0 = 2 then ab_res scr 87 d M 104 [l0, l1, l2, l3, l4, l5] (st) else if v0 = 3 then ab_res scr 87 d M 110 [l0, l1, l2, l3, l4, l5] (st) else if v0 = 4 then ab_res scr 87 d M 116 [l0, l1, l2, l3, l4, l5] (st) else if v0 = 5 then ab_res scr 87 d M 122 [l0, l1, l2, l3, l4, l5] (st) else ab_res scr 87 d M 131 [l0, l1, l2, l3, l4, l5] (st) := by
  by_cases h0 : v0 = 0
  · rw [if_pos h0, h0]
    exact ab_xg (ab_dc hc87 dX11_of_52) rfl rfl
  by_cases h1 : v0 = 1
  · rw [if_neg h0, if_pos h1, h1]
    exact ab_xg (ab_dc hc87 dX11_of_52) rfl rfl
  by_cases h2 : v0 = 2
  · rw [if_neg h0, if_neg h1, if_pos h2, h2]
    exact ab_xg (ab_dc hc87 dX11_of_52) rfl rfl
  by_cases h3 : v0 = 3
  · rw [if_neg h0, if_neg h1, if_neg h2, if_pos h3, h3]
    exact ab_xg (ab_dc hc87 dX11_of_52) rfl rfl
  by_cases h4 : v0 = 4
  · rw [if_neg h0, if_neg h1, if_neg h2, if_neg h3, if_pos h4, h4]
    exact ab_xg (ab_dc hc87 dX11_of_52) rfl rfl
  by_cases h5 : v0 = 5
  · rw [if_neg h0, if_neg h1, if_neg h2, if_neg h3, if_neg h4, if_pos h5, h5]
    exact ab_xg (ab_dc hc87 dX11_of_52) rfl rfl
  rw [if_neg h0, if_neg h1, if_neg h2, if_neg h3, if_neg h4, if_neg h5]
  have hx : v0.toInt < 0 ∨ 5 < v0.toInt := by
    have e0 : v0.toInt ≠ 0 := fun q => h0 (Int32.toInt_inj.mp (q.trans (by decide)))
    have e1 : v0.toInt ≠ 1 := fun q => h1 (Int32.toInt_inj.mp (q.trans (by decide)))
    have e2 : v0.toInt ≠ 2 := fun q => h2 (Int32.toInt_inj.mp (q.trans (by decide)))
    have e3 : v0.toInt ≠ 3 := fun q => h3 (Int32.toInt_inj.mp (q.trans (by decide)))
    have e4 : v0.toInt ≠ 4 := fun q => h4 (Int32.toInt_inj.mp (q.trans (by decide)))
    have e5 : v0.toInt ≠ 5 := fun q => h5 (Int32.toInt_inj.mp (q.trans (by decide)))
    omega
  refine ab_xg (ab_dc hc87 dX11_of_52) rfl ?_
  show (if v0.toInt < 0 ∨ 5 < v0.toInt then ab_jm ab_L0 M 52 (79) [l0, l1, l2, l3, l4, l5] st else _) = _
  rw [if_pos hx]
  rfl
end S87_52
theorem hc88 : ab_code 88 = cX11_fairest := rfl
theorem hn88 : ab_nL 88 = 8 := rfl
theorem hk88 : ab_ky 88 = 11 := rfl
theorem hr88 : ab_ret 88 = some .int := rfl
section Q88
variable {scr : Option (List Int32)} {d : Nat} {M : ab_M} {st : List Value} {l0 l1 l2 l3 l4 l5 l6 l7 : Option Value}
theorem q88_0 {x : Int32} : ab_res scr 88 d M 0 [l0, l1, some (.int x), l3, l4, l5, l6, l7] (st) = ab_res scr 88 d M 1 [l0, l1, some (.int x), l3, l4, l5, l6, l7] (.int x :: st) := ab_o_iload_n (ab_dc hc88 dX11_fairest_0) rfl
theorem q88_1 : ab_res scr 88 d M 1 [l0, l1, l2, l3, l4, l5, l6, l7] (st) = ab_res scr 88 d M 2 [l0, l1, l2, l3, l4, l5, l6, l7] (.int 4 :: st) := (ab_o_iconst (ab_dc hc88 dX11_fairest_1)).trans (by rw [ki_iconst_4])
theorem q88_2 {v0 : Int32} {v1 : Int32} : ab_res scr 88 8 M 2 [l0, l1, l2, l3, l4, l5, l6, l7] ([.int v0, .int v1]) = (ab_ms scr 111 [.int v1, .int v0] M).bind fun o => ab_res scr 88 8 o.1 5 [l0, l1, l2, l3, l4, l5, l6, l7] (ab_pr o.2 []) := ab_o_static (ab_dc hc88 dX11_fairest_2) hk88 lk_ca_11_113 hm111 (Nat.le_of_ble_eq_true rfl) rfl rfl rfl rfl rfl
theorem q88_5 {v0 : Int32} : ab_res scr 88 d M 5 [l0, l1, l2, l3, l4, l5, l6, l7] (.int v0 :: st) = if ¬ v0 = 0 then ab_res scr 88 d M 10 [l0, l1, l2, l3, l4, l5, l6, l7] (st) else ab_res scr 88 d M 8 [l0, l1, l2, l3, l4, l5, l6, l7] (st) := ab_o_br2 (off := 5) (ab_dc hc88 dX11_fairest_5) (by decide) rfl rfl
theorem q88_8 : ab_res scr 88 d M 8 [l0, l1, l2, l3, l4, l5, l6, l7] (st) = ab_res scr 88 d M 9 [l0, l1, l2, l3, l4, l5, l6, l7] (.int (-1) :: st) := (ab_o_iconst (ab_dc hc88 dX11_fairest_8)).trans (by rw [ki_iconst_m1])
theorem q88_9 {v0 : Int32} : ab_res scr 88 d M 9 [l0, l1, l2, l3, l4, l5, l6, l7] ([.int v0]) = some (M, some (.int v0)) := ab_o_ireturn (ab_dc hc88 dX11_fairest_9) hr88 rfl
theorem q88_10 {xr : Nat} : ab_res scr 88 d M 10 [some (.ref xr), l1, l2, l3, l4, l5, l6, l7] (st) = ab_res scr 88 d M 11 [some (.ref xr), l1, l2, l3, l4, l5, l6, l7] (.ref xr :: st) := ab_o_aload_n (ab_dc hc88 dX11_fairest_10) rfl
theorem q88_11 {v0 : Nat} : ab_res scr 88 d M 11 [l0, l1, l2, l3, l4, l5, l6, l7] (.ref v0 :: st) = (ab_gF ab_L0 M v0 11 2).bind fun v => ab_res scr 88 d M 14 [l0, l1, l2, l3, l4, l5, l6, l7] (v :: st) := ab_o_getfield (ab_dc hc88 dX11_fairest_11) hk88 lk_fl_11_28
theorem q88_14 {v0 : Nat} : ab_res scr 88 d M 14 [l0, l1, l2, l3, l4, l5, l6, l7] (.ref v0 :: st) = (ab_gF ab_L0 M v0 4 3).bind fun v => ab_res scr 88 d M 17 [l0, l1, l2, l3, l4, l5, l6, l7] (v :: st) := ab_o_getfield (ab_dc hc88 dX11_fairest_14) hk88 lk_fl_11_200
theorem q88_17 {v0 : Int32} : ab_res scr 88 d M 17 [l0, l1, l2, l3, l4, l5, l6, l7] (.int v0 :: st) = if ¬ v0 = 0 then ab_res scr 88 d M 23 [l0, l1, l2, l3, l4, l5, l6, l7] (st) else ab_res scr 88 d M 20 [l0, l1, l2, l3, l4, l5, l6, l7] (st) := ab_o_br2 (off := 6) (ab_dc hc88 dX11_fairest_17) (by decide) rfl rfl
theorem q88_20 : ab_res scr 88 d M 20 [l0, l1, l2, l3, l4, l5, l6, l7] (st) = ab_res scr 88 d M 22 [l0, l1, l2, l3, l4, l5, l6, l7] (.int (-2) :: st) := (ab_o_bipush (ab_dc hc88 dX11_fairest_20)).trans (by rw [ki_bipush_m2])
theorem q88_22 {v0 : Int32} : ab_res scr 88 d M 22 [l0, l1, l2, l3, l4, l5, l6, l7] ([.int v0]) = some (M, some (.int v0)) := ab_o_ireturn (ab_dc hc88 dX11_fairest_22) hr88 rfl
theorem q88_23 {x : Int32} : ab_res scr 88 d M 23 [l0, l1, some (.int x), l3, l4, l5, l6, l7] (st) = ab_res scr 88 d M 24 [l0, l1, some (.int x), l3, l4, l5, l6, l7] (.int x :: st) := ab_o_iload_n (ab_dc hc88 dX11_fairest_23) rfl
theorem q88_24 : ab_res scr 88 d M 24 [l0, l1, l2, l3, l4, l5, l6, l7] (st) = ab_res scr 88 d M 25 [l0, l1, l2, l3, l4, l5, l6, l7] (.int 2 :: st) := (ab_o_iconst (ab_dc hc88 dX11_fairest_24)).trans (by rw [ki_iconst_2])
theorem q88_25 {v0 : Int32} {v1 : Int32} : ab_res scr 88 d M 25 [l0, l1, l2, l3, l4, l5, l6, l7] (.int v0 :: .int v1 :: st) = if v0 = 0 then none else ab_res scr 88 d M 26 [l0, l1, l2, l3, l4, l5, l6, l7] (.int (v1 - v1 / v0 * v0) :: st) := ab_o_div (ab_dc hc88 dX11_fairest_25) (Or.inr ⟨rfl, rfl⟩)
theorem q88_26 {v0 : Int32} : ab_res scr 88 d M 26 [l0, l1, l2, l3, l4, l5, l6, l7] (.int v0 :: st) = if ¬ v0 = 0 then ab_res scr 88 d M 33 [l0, l1, l2, l3, l4, l5, l6, l7] (st) else ab_res scr 88 d M 29 [l0, l1, l2, l3, l4, l5, l6, l7] (st) := ab_o_br2 (off := 7) (ab_dc hc88 dX11_fairest_26) (by decide) rfl rfl
theorem q88_29 : ab_res scr 88 d M 29 [l0, l1, l2, l3, l4, l5, l6, l7] (st) = ab_res scr 88 d M 30 [l0, l1, l2, l3, l4, l5, l6, l7] (.int 1 :: st) := (ab_o_iconst (ab_dc hc88 dX11_fairest_29)).trans (by rw [ki_iconst_1])
theorem q88_30 : ab_res scr 88 d M 30 [l0, l1, l2, l3, l4, l5, l6, l7] (st) = ab_res scr 88 d M 34 [l0, l1, l2, l3, l4, l5, l6, l7] (st) := ab_o_goto (ab_dc hc88 dX11_fairest_30) (by decide)
theorem q88_33 : ab_res scr 88 d M 33 [l0, l1, l2, l3, l4, l5, l6, l7] (st) = ab_res scr 88 d M 34 [l0, l1, l2, l3, l4, l5, l6, l7] (.int 0 :: st) := (ab_o_iconst (ab_dc hc88 dX11_fairest_33)).trans (by rw [ki_iconst_0])
theorem q88_34 {v0 : Int32} : ab_res scr 88 d M 34 [l0, l1, l2, l3, l4, l5, l6, l7] (.int v0 :: st) = ab_res scr 88 d M 35 [l0, l1, ab_nl l2, some (.int v0), l4, l5, l6, l7] (st) := (ab_o_st1 (k := 3) (ab_dc hc88 dX11_fairest_34) (Or.inr (Or.inr (Or.inl ⟨3, rfl, rfl, rfl, ⟨_, rfl⟩⟩))) hn88 (by decide)).trans (ab_kl1 [l0, l1] _ l2 rfl rfl)
theorem q88_35 : ab_res scr 88 d M 35 [l0, l1, l2, l3, l4, l5, l6, l7] (st) = ab_res scr 88 d M 36 [l0, l1, l2, l3, l4, l5, l6, l7] (.int 0 :: st) := (ab_o_iconst (ab_dc hc88 dX11_fairest_35)).trans (by rw [ki_iconst_0])
theorem q88_36 {v0 : Int32} : ab_res scr 88 d M 36 [l0, l1, l2, l3, l4, l5, l6, l7] (.int v0 :: st) = ab_res scr 88 d M 38 [l0, l1, l2, ab_nl l3, some (.int v0), l5, l6, l7] (st) := (ab_o_st1 (k := 4) (ab_dc hc88 dX11_fairest_36) (Or.inl ⟨rfl, rfl, ⟨_, rfl⟩⟩) hn88 (by decide)).trans (ab_kl1 [l0, l1, l2] _ l3 rfl rfl)
theorem q88_38 : ab_res scr 88 d M 38 [l0, l1, l2, l3, l4, l5, l6, l7] (st) = ab_res scr 88 d M 40 [l0, l1, l2, l3, l4, l5, l6, l7] (.int 2147483647 :: st) := ab_o_ldc (ab_dc hc88 dX11_fairest_38) hk88 lk_ko_11_201
theorem q88_40 {v0 : Int32} : ab_res scr 88 d M 40 [l0, l1, l2, l3, l4, l5, l6, l7] (.int v0 :: st) = ab_res scr 88 d M 42 [l0, l1, l2, l3, ab_nl l4, some (.int v0), l6, l7] (st) := (ab_o_st1 (k := 5) (ab_dc hc88 dX11_fairest_40) (Or.inl ⟨rfl, rfl, ⟨_, rfl⟩⟩) hn88 (by decide)).trans (ab_kl1 [l0, l1, l2, l3] _ l4 rfl rfl)
theorem q88_42 : ab_res scr 88 d M 42 [l0, l1, l2, l3, l4, l5, l6, l7] (st) = ab_res scr 88 d M 43 [l0, l1, l2, l3, l4, l5, l6, l7] (.int 0 :: st) := (ab_o_iconst (ab_dc hc88 dX11_fairest_42)).trans (by rw [ki_iconst_0])
theorem q88_43 {v0 : Int32} : ab_res scr 88 d M 43 [l0, l1, l2, l3, l4, l5, l6, l7] (.int v0 :: st) = ab_res scr 88 d M 45 [l0, l1, l2, l3, l4, ab_nl l5, some (.int v0), l7] (st) := (ab_o_st1 (k := 6) (ab_dc hc88 dX11_fairest_43) (Or.inl ⟨rfl, rfl, ⟨_, rfl⟩⟩) hn88 (by decide)).trans (ab_kl1 [l0, l1, l2, l3, l4] _ l5 rfl rfl)
theorem q88_45 {x : Int32} : ab_res scr 88 d M 45 [l0, l1, l2, l3, l4, l5, some (.int x), l7] (st) = ab_res scr 88 d M 47 [l0, l1, l2, l3, l4, l5, some (.int x), l7] (.int x :: st) := ab_o_iload (ab_dc hc88 dX11_fairest_45) rfl
theorem q88_47 : ab_res scr 88 d M 47 [l0, l1, l2, l3, l4, l5, l6, l7] (st) = ab_res scr 88 d M 49 [l0, l1, l2, l3, l4, l5, l6, l7] (.int 7 :: st) := (ab_o_bipush (ab_dc hc88 dX11_fairest_47)).trans (by rw [ki_bipush_7])
theorem q88_49 {v0 : Int32} {v1 : Int32} : ab_res scr 88 d M 49 [l0, l1, l2, l3, l4, l5, l6, l7] (.int v0 :: .int v1 :: st) = if v0 ≤ v1 then ab_res scr 88 d M 103 [l0, l1, l2, l3, l4, l5, l6, l7] (st) else ab_res scr 88 d M 52 [l0, l1, l2, l3, l4, l5, l6, l7] (st) := ab_o_br2 (off := 54) (ab_dc hc88 dX11_fairest_49) (by decide) rfl rfl
theorem q88_52 {xr : Nat} : ab_res scr 88 d M 52 [some (.ref xr), l1, l2, l3, l4, l5, l6, l7] (st) = ab_res scr 88 d M 53 [some (.ref xr), l1, l2, l3, l4, l5, l6, l7] (.ref xr :: st) := ab_o_aload_n (ab_dc hc88 dX11_fairest_52) rfl
theorem q88_53 {x : Int32} : ab_res scr 88 d M 53 [l0, l1, l2, l3, l4, l5, some (.int x), l7] (st) = ab_res scr 88 d M 55 [l0, l1, l2, l3, l4, l5, some (.int x), l7] (.int x :: st) := ab_o_iload (ab_dc hc88 dX11_fairest_53) rfl
theorem q88_55 {x : Int32} : ab_res scr 88 d M 55 [l0, some (.int x), l2, l3, l4, l5, l6, l7] (st) = ab_res scr 88 d M 56 [l0, some (.int x), l2, l3, l4, l5, l6, l7] (.int x :: st) := ab_o_iload_n (ab_dc hc88 dX11_fairest_55) rfl
theorem q88_56 {v0 : Int32} {v1 : Int32} {v2 : Nat} (hb : (ab_rc ab_L0 v2 = some 11) = True) : ab_res scr 88 8 M 56 [l0, l1, l2, l3, l4, l5, l6, l7] ([.int v0, .int v1, .ref v2]) = (ab_ms scr 113 [.ref v2, .int v1, .int v0] M).bind fun o => ab_res scr 88 8 o.1 59 [l0, l1, l2, l3, l4, l5, l6, l7] (ab_pr o.2 []) := ab_o_virtual (ab_dc hc88 dX11_fairest_56) hk88 lk_ca_11_126 hm113 (Nat.le_of_ble_eq_true rfl) rfl rfl rfl (of_eq_true hb) rfl rfl
theorem q88_59 {x : Int32} : ab_res scr 88 d M 59 [l0, l1, l2, some (.int x), l4, l5, l6, l7] (st) = ab_res scr 88 d M 60 [l0, l1, l2, some (.int x), l4, l5, l6, l7] (.int x :: st) := ab_o_iload_n (ab_dc hc88 dX11_fairest_59) rfl
theorem q88_60 {v0 : Int32} : ab_res scr 88 d M 60 [l0, l1, l2, l3, l4, l5, l6, l7] (.int v0 :: st) = if v0 = 0 then ab_res scr 88 d M 73 [l0, l1, l2, l3, l4, l5, l6, l7] (st) else ab_res scr 88 d M 63 [l0, l1, l2, l3, l4, l5, l6, l7] (st) := ab_o_br2 (off := 13) (ab_dc hc88 dX11_fairest_60) (by decide) rfl rfl
theorem q88_63 {xr : Nat} : ab_res scr 88 d M 63 [some (.ref xr), l1, l2, l3, l4, l5, l6, l7] (st) = ab_res scr 88 d M 64 [some (.ref xr), l1, l2, l3, l4, l5, l6, l7] (.ref xr :: st) := ab_o_aload_n (ab_dc hc88 dX11_fairest_63) rfl
theorem q88_64 {v0 : Nat} : ab_res scr 88 d M 64 [l0, l1, l2, l3, l4, l5, l6, l7] (.ref v0 :: st) = (ab_gF ab_L0 M v0 11 5).bind fun v => ab_res scr 88 d M 67 [l0, l1, l2, l3, l4, l5, l6, l7] (v :: st) := ab_o_getfield (ab_dc hc88 dX11_fairest_64) hk88 lk_fl_11_49
theorem q88_67 {v0 : Nat} (hb : (ab_rc ab_L0 v0 = some 1) = True) : ab_res scr 88 8 M 67 [l0, l1, l2, l3, l4, l5, l6, l7] ([.ref v0]) = (ab_ms scr 32 [.ref v0] M).bind fun o => ab_res scr 88 8 o.1 70 [l0, l1, l2, l3, l4, l5, l6, l7] (ab_pr o.2 []) := ab_o_virtual (ab_dc hc88 dX11_fairest_67) hk88 lk_ca_11_136 hm32 (Nat.le_of_ble_eq_true rfl) rfl rfl rfl (of_eq_true hb) rfl rfl
theorem q88_70 : ab_res scr 88 d M 70 [l0, l1, l2, l3, l4, l5, l6, l7] (st) = ab_res scr 88 d M 80 [l0, l1, l2, l3, l4, l5, l6, l7] (st) := ab_o_goto (ab_dc hc88 dX11_fairest_70) (by decide)
theorem q88_73 {xr : Nat} : ab_res scr 88 d M 73 [some (.ref xr), l1, l2, l3, l4, l5, l6, l7] (st) = ab_res scr 88 d M 74 [some (.ref xr), l1, l2, l3, l4, l5, l6, l7] (.ref xr :: st) := ab_o_aload_n (ab_dc hc88 dX11_fairest_73) rfl
theorem q88_74 {v0 : Nat} : ab_res scr 88 d M 74 [l0, l1, l2, l3, l4, l5, l6, l7] (.ref v0 :: st) = (ab_gF ab_L0 M v0 11 5).bind fun v => ab_res scr 88 d M 77 [l0, l1, l2, l3, l4, l5, l6, l7] (v :: st) := ab_o_getfield (ab_dc hc88 dX11_fairest_74) hk88 lk_fl_11_49
theorem q88_77 {v0 : Nat} : ab_res scr 88 d M 77 [l0, l1, l2, l3, l4, l5, l6, l7] (.ref v0 :: st) = (ab_gF ab_L0 M v0 1 5).bind fun v => ab_res scr 88 d M 80 [l0, l1, l2, l3, l4, l5, l6, l7] (v :: st) := ab_o_getfield (ab_dc hc88 dX11_fairest_77) hk88 lk_fl_11_142
theorem q88_80 {v0 : Int32} : ab_res scr 88 d M 80 [l0, l1, l2, l3, l4, l5, l6, l7] (.int v0 :: st) = ab_res scr 88 d M 82 [l0, l1, l2, l3, l4, l5, ab_nl l6, some (.int v0)] (st) := (ab_o_st1 (k := 7) (ab_dc hc88 dX11_fairest_80) (Or.inl ⟨rfl, rfl, ⟨_, rfl⟩⟩) hn88 (by decide)).trans (ab_kl1 [l0, l1, l2, l3, l4, l5] _ l6 rfl rfl)
theorem q88_82 {x : Int32} : ab_res scr 88 d M 82 [l0, l1, l2, l3, l4, l5, l6, some (.int x)] (st) = ab_res scr 88 d M 84 [l0, l1, l2, l3, l4, l5, l6, some (.int x)] (.int x :: st) := ab_o_iload (ab_dc hc88 dX11_fairest_82) rfl
theorem q88_84 {x : Int32} : ab_res scr 88 d M 84 [l0, l1, l2, l3, l4, some (.int x), l6, l7] (st) = ab_res scr 88 d M 86 [l0, l1, l2, l3, l4, some (.int x), l6, l7] (.int x :: st) := ab_o_iload (ab_dc hc88 dX11_fairest_84) rfl
theorem q88_86 {v0 : Int32} {v1 : Int32} : ab_res scr 88 d M 86 [l0, l1, l2, l3, l4, l5, l6, l7] (.int v0 :: .int v1 :: st) = if v0 ≤ v1 then ab_res scr 88 d M 97 [l0, l1, l2, l3, l4, l5, l6, l7] (st) else ab_res scr 88 d M 89 [l0, l1, l2, l3, l4, l5, l6, l7] (st) := ab_o_br2 (off := 11) (ab_dc hc88 dX11_fairest_86) (by decide) rfl rfl
theorem q88_89 {x : Int32} : ab_res scr 88 d M 89 [l0, l1, l2, l3, l4, l5, l6, some (.int x)] (st) = ab_res scr 88 d M 91 [l0, l1, l2, l3, l4, l5, l6, some (.int x)] (.int x :: st) := ab_o_iload (ab_dc hc88 dX11_fairest_89) rfl
theorem q88_91 {v0 : Int32} : ab_res scr 88 d M 91 [l0, l1, l2, l3, l4, l5, l6, l7] (.int v0 :: st) = ab_res scr 88 d M 93 [l0, l1, l2, l3, ab_nl l4, some (.int v0), l6, l7] (st) := (ab_o_st1 (k := 5) (ab_dc hc88 dX11_fairest_91) (Or.inl ⟨rfl, rfl, ⟨_, rfl⟩⟩) hn88 (by decide)).trans (ab_kl1 [l0, l1, l2, l3] _ l4 rfl rfl)
theorem q88_93 {x : Int32} : ab_res scr 88 d M 93 [l0, l1, l2, l3, l4, l5, some (.int x), l7] (st) = ab_res scr 88 d M 95 [l0, l1, l2, l3, l4, l5, some (.int x), l7] (.int x :: st) := ab_o_iload (ab_dc hc88 dX11_fairest_93) rfl
theorem q88_95 {v0 : Int32} : ab_res scr 88 d M 95 [l0, l1, l2, l3, l4, l5, l6, l7] (.int v0 :: st) = ab_res scr 88 d M 97 [l0, l1, l2, ab_nl l3, some (.int v0), l5, l6, l7] (st) := (ab_o_st1 (k := 4) (ab_dc hc88 dX11_fairest_95) (Or.inl ⟨rfl, rfl, ⟨_, rfl⟩⟩) hn88 (by decide)).trans (ab_kl1 [l0, l1, l2] _ l3 rfl rfl)
theorem q88_97 {x : Int32} : ab_res scr 88 d M 97 [l0, l1, l2, l3, l4, l5, some (.int x), l7] (st) = ab_res scr 88 d M 100 [l0, l1, l2, l3, l4, ab_nl l5, some (.int (x + 1)), l7] (st) := (ab_o_iinc (k := 6) (ab_dc hc88 dX11_fairest_97) hn88 (by decide) rfl).trans (by rw [ki_iconst_1]; exact ab_kl1 [l0, l1, l2, l3, l4] _ l5 rfl rfl)
theorem q88_100 : ab_res scr 88 d M 100 [l0, l1, l2, l3, l4, l5, l6, l7] (st) = ab_res scr 88 d M 45 [l0, l1, l2, l3, l4, l5, l6, l7] (st) := ab_o_goto (ab_dc hc88 dX11_fairest_100) (by decide)
theorem q88_103 {x : Int32} : ab_res scr 88 d M 103 [l0, l1, some (.int x), l3, l4, l5, l6, l7] (st) = ab_res scr 88 d M 104 [l0, l1, some (.int x), l3, l4, l5, l6, l7] (.int x :: st) := ab_o_iload_n (ab_dc hc88 dX11_fairest_103) rfl
theorem q88_104 : ab_res scr 88 d M 104 [l0, l1, l2, l3, l4, l5, l6, l7] (st) = ab_res scr 88 d M 105 [l0, l1, l2, l3, l4, l5, l6, l7] (.int 2 :: st) := (ab_o_iconst (ab_dc hc88 dX11_fairest_104)).trans (by rw [ki_iconst_2])
theorem q88_105 {v0 : Int32} {v1 : Int32} : ab_res scr 88 d M 105 [l0, l1, l2, l3, l4, l5, l6, l7] (.int v0 :: .int v1 :: st) = if v0 ≤ v1 then ab_res scr 88 d M 113 [l0, l1, l2, l3, l4, l5, l6, l7] (st) else ab_res scr 88 d M 108 [l0, l1, l2, l3, l4, l5, l6, l7] (st) := ab_o_br2 (off := 8) (ab_dc hc88 dX11_fairest_105) (by decide) rfl rfl
theorem q88_108 {x : Int32} : ab_res scr 88 d M 108 [l0, l1, l2, l3, some (.int x), l5, l6, l7] (st) = ab_res scr 88 d M 110 [l0, l1, l2, l3, some (.int x), l5, l6, l7] (.int x :: st) := ab_o_iload (ab_dc hc88 dX11_fairest_108) rfl
theorem q88_110 : ab_res scr 88 d M 110 [l0, l1, l2, l3, l4, l5, l6, l7] (st) = ab_res scr 88 d M 115 [l0, l1, l2, l3, l4, l5, l6, l7] (st) := ab_o_goto (ab_dc hc88 dX11_fairest_110) (by decide)
theorem q88_113 {x : Int32} : ab_res scr 88 d M 113 [l0, l1, l2, l3, l4, some (.int x), l6, l7] (st) = ab_res scr 88 d M 115 [l0, l1, l2, l3, l4, some (.int x), l6, l7] (.int x :: st) := ab_o_iload (ab_dc hc88 dX11_fairest_113) rfl
theorem q88_115 {v0 : Int32} : ab_res scr 88 d M 115 [l0, l1, l2, l3, l4, l5, l6, l7] ([.int v0]) = some (M, some (.int v0)) := ab_o_ireturn (ab_dc hc88 dX11_fairest_115) hr88 rfl
end Q88
