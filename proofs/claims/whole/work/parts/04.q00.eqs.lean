theorem hc1 : ab_code 1 = cX0_most := rfl
theorem hn1 : ab_nL 1 = 7 := rfl
theorem hk1 : ab_ky 1 = 0 := rfl
theorem hr1 : ab_ret 1 = some .int := rfl
section Q1
variable {scr : Option (List Int32)} {d : Nat} {M : ab_M} {st : List Value} {l0 l1 l2 l3 l4 l5 l6 : Option Value}
theorem q1_0 : ab_res scr 1 d M 0 [l0, l1, l2, l3, l4, l5, l6] (st) = ab_res scr 1 d M 1 [l0, l1, l2, l3, l4, l5, l6] (.int 1 :: st) := (ab_o_iconst (ab_dc hc1 dX0_most_0)).trans (by rw [ki_iconst_1])
theorem q1_1 {xr : Nat} : ab_res scr 1 d M 1 [some (.ref xr), l1, l2, l3, l4, l5, l6] (st) = ab_res scr 1 d M 2 [some (.ref xr), l1, l2, l3, l4, l5, l6] (.ref xr :: st) := ab_o_aload_n (ab_dc hc1 dX0_most_1) rfl
theorem q1_2 {v0 : Nat} : ab_res scr 1 d M 2 [l0, l1, l2, l3, l4, l5, l6] (.ref v0 :: st) = (ab_gF ab_L0 M v0 0 0).bind fun v => ab_res scr 1 d M 5 [l0, l1, l2, l3, l4, l5, l6] (v :: st) := ab_o_getfield (ab_dc hc1 dX0_most_2) hk1 lk_fl_0_18
theorem q1_5 {v0 : Nat} : ab_res scr 1 d M 5 [l0, l1, l2, l3, l4, l5, l6] (.ref v0 :: st) = (ab_gF ab_L0 M v0 4 3).bind fun v => ab_res scr 1 d M 8 [l0, l1, l2, l3, l4, l5, l6] (v :: st) := ab_o_getfield (ab_dc hc1 dX0_most_5) hk1 lk_fl_0_22
theorem q1_8 {v0 : Int32} {v1 : Int32} : ab_res scr 1 d M 8 [l0, l1, l2, l3, l4, l5, l6] (.int v0 :: .int v1 :: st) = ab_res scr 1 d M 9 [l0, l1, l2, l3, l4, l5, l6] (.int (v1 <<< (v0 &&& 31)) :: st) := ab_xg (ab_dc hc1 dX0_most_8) rfl rfl
theorem q1_9 : ab_res scr 1 d M 9 [l0, l1, l2, l3, l4, l5, l6] (st) = ab_res scr 1 d M 10 [l0, l1, l2, l3, l4, l5, l6] (.int 1 :: st) := (ab_o_iconst (ab_dc hc1 dX0_most_9)).trans (by rw [ki_iconst_1])
theorem q1_10 {v0 : Int32} {v1 : Int32} : ab_res scr 1 d M 10 [l0, l1, l2, l3, l4, l5, l6] (.int v0 :: .int v1 :: st) = ab_res scr 1 d M 11 [l0, l1, l2, l3, l4, l5, l6] (.int (v1 - v0) :: st) := ab_xg (ab_dc hc1 dX0_most_10) rfl rfl
theorem q1_11 {v0 : Int32} : ab_res scr 1 d M 11 [l0, l1, l2, l3, l4, l5, l6] (.int v0 :: st) = ab_res scr 1 d M 12 [ab_nl l0, some (.int v0), l2, l3, l4, l5, l6] (st) := (ab_o_st1 (k := 1) (ab_dc hc1 dX0_most_11) (Or.inr (Or.inr (Or.inl ⟨1, rfl, rfl, rfl, ⟨_, rfl⟩⟩))) hn1 (by decide)).trans (ab_kl1 [] _ l0 rfl rfl)
theorem q1_12 : ab_res scr 1 d M 12 [l0, l1, l2, l3, l4, l5, l6] (st) = ab_res scr 1 d M 13 [l0, l1, l2, l3, l4, l5, l6] (.int 1 :: st) := (ab_o_iconst (ab_dc hc1 dX0_most_12)).trans (by rw [ki_iconst_1])
theorem q1_13 {v0 : Int32} : ab_res scr 1 d M 13 [l0, l1, l2, l3, l4, l5, l6] (.int v0 :: st) = ab_res scr 1 d M 14 [l0, ab_nl l1, some (.int v0), l3, l4, l5, l6] (st) := (ab_o_st1 (k := 2) (ab_dc hc1 dX0_most_13) (Or.inr (Or.inr (Or.inl ⟨2, rfl, rfl, rfl, ⟨_, rfl⟩⟩))) hn1 (by decide)).trans (ab_kl1 [l0] _ l1 rfl rfl)
theorem q1_14 {x : Int32} : ab_res scr 1 d M 14 [l0, l1, some (.int x), l3, l4, l5, l6] (st) = ab_res scr 1 d M 15 [l0, l1, some (.int x), l3, l4, l5, l6] (.int x :: st) := ab_o_iload_n (ab_dc hc1 dX0_most_14) rfl
theorem q1_15 {x : Int32} : ab_res scr 1 d M 15 [l0, some (.int x), l2, l3, l4, l5, l6] (st) = ab_res scr 1 d M 16 [l0, some (.int x), l2, l3, l4, l5, l6] (.int x :: st) := ab_o_iload_n (ab_dc hc1 dX0_most_15) rfl
theorem q1_16 {v0 : Int32} {v1 : Int32} : ab_res scr 1 d M 16 [l0, l1, l2, l3, l4, l5, l6] (.int v0 :: .int v1 :: st) = if v0 < v1 then ab_res scr 1 d M 131 [l0, l1, l2, l3, l4, l5, l6] (st) else ab_res scr 1 d M 19 [l0, l1, l2, l3, l4, l5, l6] (st) := ab_o_br2 (off := 115) (ab_dc hc1 dX0_most_16) (by decide) rfl rfl
theorem q1_19 : ab_res scr 1 d M 19 [l0, l1, l2, l3, l4, l5, l6] (st) = ab_res scr 1 d M 20 [l0, l1, l2, l3, l4, l5, l6] (.int 0 :: st) := (ab_o_iconst (ab_dc hc1 dX0_most_19)).trans (by rw [ki_iconst_0])
theorem q1_20 {v0 : Int32} : ab_res scr 1 d M 20 [l0, l1, l2, l3, l4, l5, l6] (.int v0 :: st) = ab_res scr 1 d M 21 [l0, l1, ab_nl l2, some (.int v0), l4, l5, l6] (st) := (ab_o_st1 (k := 3) (ab_dc hc1 dX0_most_20) (Or.inr (Or.inr (Or.inl ⟨3, rfl, rfl, rfl, ⟨_, rfl⟩⟩))) hn1 (by decide)).trans (ab_kl1 [l0, l1] _ l2 rfl rfl)
theorem q1_21 : ab_res scr 1 d M 21 [l0, l1, l2, l3, l4, l5, l6] (st) = ab_res scr 1 d M 22 [l0, l1, l2, l3, l4, l5, l6] (.int 0 :: st) := (ab_o_iconst (ab_dc hc1 dX0_most_21)).trans (by rw [ki_iconst_0])
theorem q1_22 {v0 : Int32} : ab_res scr 1 d M 22 [l0, l1, l2, l3, l4, l5, l6] (.int v0 :: st) = ab_res scr 1 d M 24 [l0, l1, l2, ab_nl l3, some (.int v0), l5, l6] (st) := (ab_o_st1 (k := 4) (ab_dc hc1 dX0_most_22) (Or.inl ⟨rfl, rfl, ⟨_, rfl⟩⟩) hn1 (by decide)).trans (ab_kl1 [l0, l1, l2] _ l3 rfl rfl)
theorem q1_24 : ab_res scr 1 d M 24 [l0, l1, l2, l3, l4, l5, l6] (st) = ab_res scr 1 d M 25 [l0, l1, l2, l3, l4, l5, l6] (.int 0 :: st) := (ab_o_iconst (ab_dc hc1 dX0_most_24)).trans (by rw [ki_iconst_0])
theorem q1_25 {v0 : Int32} : ab_res scr 1 d M 25 [l0, l1, l2, l3, l4, l5, l6] (.int v0 :: st) = ab_res scr 1 d M 27 [l0, l1, l2, l3, ab_nl l4, some (.int v0), l6] (st) := (ab_o_st1 (k := 5) (ab_dc hc1 dX0_most_25) (Or.inl ⟨rfl, rfl, ⟨_, rfl⟩⟩) hn1 (by decide)).trans (ab_kl1 [l0, l1, l2, l3] _ l4 rfl rfl)
theorem q1_27 {x : Int32} : ab_res scr 1 d M 27 [l0, l1, l2, l3, l4, some (.int x), l6] (st) = ab_res scr 1 d M 29 [l0, l1, l2, l3, l4, some (.int x), l6] (.int x :: st) := ab_o_iload (ab_dc hc1 dX0_most_27) rfl
theorem q1_29 {xr : Nat} : ab_res scr 1 d M 29 [some (.ref xr), l1, l2, l3, l4, l5, l6] (st) = ab_res scr 1 d M 30 [some (.ref xr), l1, l2, l3, l4, l5, l6] (.ref xr :: st) := ab_o_aload_n (ab_dc hc1 dX0_most_29) rfl
theorem q1_30 {v0 : Nat} : ab_res scr 1 d M 30 [l0, l1, l2, l3, l4, l5, l6] (.ref v0 :: st) = (ab_gF ab_L0 M v0 0 0).bind fun v => ab_res scr 1 d M 33 [l0, l1, l2, l3, l4, l5, l6] (v :: st) := ab_o_getfield (ab_dc hc1 dX0_most_30) hk1 lk_fl_0_18
theorem q1_33 {v0 : Nat} : ab_res scr 1 d M 33 [l0, l1, l2, l3, l4, l5, l6] (.ref v0 :: st) = (ab_gF ab_L0 M v0 4 3).bind fun v => ab_res scr 1 d M 36 [l0, l1, l2, l3, l4, l5, l6] (v :: st) := ab_o_getfield (ab_dc hc1 dX0_most_33) hk1 lk_fl_0_22
theorem q1_36 {v0 : Int32} {v1 : Int32} : ab_res scr 1 d M 36 [l0, l1, l2, l3, l4, l5, l6] (.int v0 :: .int v1 :: st) = if v0 ≤ v1 then ab_res scr 1 d M 99 [l0, l1, l2, l3, l4, l5, l6] (st) else ab_res scr 1 d M 39 [l0, l1, l2, l3, l4, l5, l6] (st) := ab_o_br2 (off := 63) (ab_dc hc1 dX0_most_36) (by decide) rfl rfl
theorem q1_39 {x : Int32} : ab_res scr 1 d M 39 [l0, l1, l2, l3, l4, some (.int x), l6] (st) = ab_res scr 1 d M 41 [l0, l1, l2, l3, l4, some (.int x), l6] (.int x :: st) := ab_o_iload (ab_dc hc1 dX0_most_39) rfl
theorem q1_41 {x : Int32} : ab_res scr 1 d M 41 [l0, l1, some (.int x), l3, l4, l5, l6] (st) = ab_res scr 1 d M 42 [l0, l1, some (.int x), l3, l4, l5, l6] (.int x :: st) := ab_o_iload_n (ab_dc hc1 dX0_most_41) rfl
theorem q1_42 {v0 : Int32} {v1 : Int32} : ab_res scr 1 2 M 42 [l0, l1, l2, l3, l4, l5, l6] ([.int v0, .int v1]) = (ab_ms scr 112 [.int v1, .int v0] M).bind fun o => ab_res scr 1 2 o.1 45 [l0, l1, l2, l3, l4, l5, l6] (ab_pr o.2 []) := ab_o_static (ab_dc hc1 dX0_most_42) hk1 lk_ca_0_28 hm112 (Nat.le_of_ble_eq_true rfl) rfl rfl rfl rfl rfl
theorem q1_45 {v0 : Int32} : ab_res scr 1 d M 45 [l0, l1, l2, l3, l4, l5, l6] (.int v0 :: st) = if v0 = 0 then ab_res scr 1 d M 93 [l0, l1, l2, l3, l4, l5, l6] (st) else ab_res scr 1 d M 48 [l0, l1, l2, l3, l4, l5, l6] (st) := ab_o_br2 (off := 48) (ab_dc hc1 dX0_most_45) (by decide) rfl rfl
theorem q1_48 {x : Int32} : ab_res scr 1 d M 48 [l0, l1, some (.int x), l3, l4, l5, l6] (st) = ab_res scr 1 d M 49 [l0, l1, some (.int x), l3, l4, l5, l6] (.int x :: st) := ab_o_iload_n (ab_dc hc1 dX0_most_48) rfl
theorem q1_49 : ab_res scr 1 d M 49 [l0, l1, l2, l3, l4, l5, l6] (st) = ab_res scr 1 d M 50 [l0, l1, l2, l3, l4, l5, l6] (.int 1 :: st) := (ab_o_iconst (ab_dc hc1 dX0_most_49)).trans (by rw [ki_iconst_1])
theorem q1_50 {x : Int32} : ab_res scr 1 d M 50 [l0, l1, l2, l3, l4, some (.int x), l6] (st) = ab_res scr 1 d M 52 [l0, l1, l2, l3, l4, some (.int x), l6] (.int x :: st) := ab_o_iload (ab_dc hc1 dX0_most_50) rfl
theorem q1_52 {v0 : Int32} {v1 : Int32} : ab_res scr 1 d M 52 [l0, l1, l2, l3, l4, l5, l6] (.int v0 :: .int v1 :: st) = ab_res scr 1 d M 53 [l0, l1, l2, l3, l4, l5, l6] (.int (v1 <<< (v0 &&& 31)) :: st) := ab_xg (ab_dc hc1 dX0_most_52) rfl rfl
theorem q1_53 : ab_res scr 1 d M 53 [l0, l1, l2, l3, l4, l5, l6] (st) = ab_res scr 1 d M 54 [l0, l1, l2, l3, l4, l5, l6] (.int (-1) :: st) := (ab_o_iconst (ab_dc hc1 dX0_most_53)).trans (by rw [ki_iconst_m1])
theorem q1_54 {v0 : Int32} {v1 : Int32} : ab_res scr 1 d M 54 [l0, l1, l2, l3, l4, l5, l6] (.int v0 :: .int v1 :: st) = ab_res scr 1 d M 55 [l0, l1, l2, l3, l4, l5, l6] (.int (v1 ^^^ v0) :: st) := ab_xg (ab_dc hc1 dX0_most_54) rfl rfl
theorem q1_55 {v0 : Int32} {v1 : Int32} : ab_res scr 1 d M 55 [l0, l1, l2, l3, l4, l5, l6] (.int v0 :: .int v1 :: st) = ab_res scr 1 d M 56 [l0, l1, l2, l3, l4, l5, l6] (.int (v1 &&& v0) :: st) := ab_xg (ab_dc hc1 dX0_most_55) rfl rfl
theorem q1_56 {v0 : Int32} : ab_res scr 1 d M 56 [l0, l1, l2, l3, l4, l5, l6] (.int v0 :: st) = ab_res scr 1 d M 58 [l0, l1, l2, l3, l4, ab_nl l5, some (.int v0)] (st) := (ab_o_st1 (k := 6) (ab_dc hc1 dX0_most_56) (Or.inl ⟨rfl, rfl, ⟨_, rfl⟩⟩) hn1 (by decide)).trans (ab_kl1 [l0, l1, l2, l3, l4] _ l5 rfl rfl)
theorem q1_58 {x : Int32} : ab_res scr 1 d M 58 [l0, l1, l2, some (.int x), l4, l5, l6] (st) = ab_res scr 1 d M 59 [l0, l1, l2, some (.int x), l4, l5, l6] (.int x :: st) := ab_o_iload_n (ab_dc hc1 dX0_most_58) rfl
theorem q1_59 {xr : Nat} : ab_res scr 1 d M 59 [some (.ref xr), l1, l2, l3, l4, l5, l6] (st) = ab_res scr 1 d M 60 [some (.ref xr), l1, l2, l3, l4, l5, l6] (.ref xr :: st) := ab_o_aload_n (ab_dc hc1 dX0_most_59) rfl
theorem q1_60 {v0 : Nat} : ab_res scr 1 d M 60 [l0, l1, l2, l3, l4, l5, l6] (.ref v0 :: st) = (ab_gF ab_L0 M v0 0 2).bind fun v => ab_res scr 1 d M 63 [l0, l1, l2, l3, l4, l5, l6] (v :: st) := ab_o_getfield (ab_dc hc1 dX0_most_60) hk1 lk_fl_0_15
theorem q1_63 {x : Int32} : ab_res scr 1 d M 63 [l0, l1, l2, l3, l4, l5, some (.int x)] (st) = ab_res scr 1 d M 65 [l0, l1, l2, l3, l4, l5, some (.int x)] (.int x :: st) := ab_o_iload (ab_dc hc1 dX0_most_63) rfl
theorem q1_65 {v0 : Int32} {v1 : Nat} : ab_res scr 1 d M 65 [l0, l1, l2, l3, l4, l5, l6] (.int v0 :: .ref v1 :: st) = (ab_ald scr ab_L0 M v1 .int v0).bind fun v => ab_res scr 1 d M 66 [l0, l1, l2, l3, l4, l5, l6] (.int v :: st) := ab_o_iaload (ab_dc hc1 dX0_most_65)
theorem q1_66 {v0 : Int32} {v1 : Int32} : ab_res scr 1 d M 66 [l0, l1, l2, l3, l4, l5, l6] ([.int v0, .int v1]) = ab_res scr 1 d M 69 [l0, l1, l2, l3, l4, l5, l6] (.int (if v1 < v0 then v0 else v1) :: []) := ab_o_max (ab_dc hc1 dX0_most_66) hk1 lk_cn_0_32 lk_ma_0_32 rfl
theorem q1_69 {v0 : Int32} : ab_res scr 1 d M 69 [l0, l1, l2, l3, l4, l5, l6] (.int v0 :: st) = ab_res scr 1 d M 70 [l0, l1, ab_nl l2, some (.int v0), l4, l5, l6] (st) := (ab_o_st1 (k := 3) (ab_dc hc1 dX0_most_69) (Or.inr (Or.inr (Or.inl ⟨3, rfl, rfl, rfl, ⟨_, rfl⟩⟩))) hn1 (by decide)).trans (ab_kl1 [l0, l1] _ l2 rfl rfl)
theorem q1_70 {xr : Nat} : ab_res scr 1 d M 70 [some (.ref xr), l1, l2, l3, l4, l5, l6] (st) = ab_res scr 1 d M 71 [some (.ref xr), l1, l2, l3, l4, l5, l6] (.ref xr :: st) := ab_o_aload_n (ab_dc hc1 dX0_most_70) rfl
theorem q1_71 {v0 : Nat} : ab_res scr 1 d M 71 [l0, l1, l2, l3, l4, l5, l6] (.ref v0 :: st) = (ab_gF ab_L0 M v0 0 1).bind fun v => ab_res scr 1 d M 74 [l0, l1, l2, l3, l4, l5, l6] (v :: st) := ab_o_getfield (ab_dc hc1 dX0_most_71) hk1 lk_fl_0_9
theorem q1_74 {x : Int32} : ab_res scr 1 d M 74 [l0, l1, l2, l3, l4, l5, some (.int x)] (st) = ab_res scr 1 d M 76 [l0, l1, l2, l3, l4, l5, some (.int x)] (.int x :: st) := ab_o_iload (ab_dc hc1 dX0_most_74) rfl
theorem q1_76 {v0 : Int32} {v1 : Nat} : ab_res scr 1 d M 76 [l0, l1, l2, l3, l4, l5, l6] (.int v0 :: .ref v1 :: st) = (ab_ald scr ab_L0 M v1 .int v0).bind fun v => ab_res scr 1 d M 77 [l0, l1, l2, l3, l4, l5, l6] (.int v :: st) := ab_o_iaload (ab_dc hc1 dX0_most_76)
theorem q1_77 {xr : Nat} : ab_res scr 1 d M 77 [some (.ref xr), l1, l2, l3, l4, l5, l6] (st) = ab_res scr 1 d M 78 [some (.ref xr), l1, l2, l3, l4, l5, l6] (.ref xr :: st) := ab_o_aload_n (ab_dc hc1 dX0_most_77) rfl
theorem q1_78 {v0 : Nat} : ab_res scr 1 d M 78 [l0, l1, l2, l3, l4, l5, l6] (.ref v0 :: st) = (ab_gF ab_L0 M v0 0 0).bind fun v => ab_res scr 1 d M 81 [l0, l1, l2, l3, l4, l5, l6] (v :: st) := ab_o_getfield (ab_dc hc1 dX0_most_78) hk1 lk_fl_0_18
theorem q1_81 {v0 : Nat} : ab_res scr 1 d M 81 [l0, l1, l2, l3, l4, l5, l6] (.ref v0 :: st) = (ab_gF ab_L0 M v0 4 0).bind fun v => ab_res scr 1 d M 84 [l0, l1, l2, l3, l4, l5, l6] (v :: st) := ab_o_getfield (ab_dc hc1 dX0_most_81) hk1 lk_fl_0_38
theorem q1_84 : ab_res scr 1 d M 84 [l0, l1, l2, l3, l4, l5, l6] (st) = ab_res scr 1 d M 86 [l0, l1, l2, l3, l4, l5, l6] (.int 7 :: st) := (ab_o_bipush (ab_dc hc1 dX0_most_84)).trans (by rw [ki_bipush_7])
theorem q1_86 {v0 : Int32} {v1 : Nat} : ab_res scr 1 d M 86 [l0, l1, l2, l3, l4, l5, l6] (.int v0 :: .ref v1 :: st) = (ab_qe v1 v0).bind fun v => ab_res scr 1 d M 87 [l0, l1, l2, l3, l4, l5, l6] (v :: st) := ab_o_aaload (ab_dc hc1 dX0_most_86)
theorem q1_87 {x : Int32} : ab_res scr 1 d M 87 [l0, l1, l2, l3, l4, some (.int x), l6] (st) = ab_res scr 1 d M 89 [l0, l1, l2, l3, l4, some (.int x), l6] (.int x :: st) := ab_o_iload (ab_dc hc1 dX0_most_87) rfl
theorem q1_89 {v0 : Int32} {v1 : Nat} : ab_res scr 1 d M 89 [l0, l1, l2, l3, l4, l5, l6] (.int v0 :: .ref v1 :: st) = (ab_ald scr ab_L0 M v1 .int v0).bind fun v => ab_res scr 1 d M 90 [l0, l1, l2, l3, l4, l5, l6] (.int v :: st) := ab_o_iaload (ab_dc hc1 dX0_most_89)
theorem q1_90 {v0 : Int32} {v1 : Int32} : ab_res scr 1 d M 90 [l0, l1, l2, l3, l4, l5, l6] (.int v0 :: .int v1 :: st) = ab_res scr 1 d M 91 [l0, l1, l2, l3, l4, l5, l6] (.int (v1 + v0) :: st) := ab_xg (ab_dc hc1 dX0_most_90) rfl rfl
theorem q1_91 {v0 : Int32} : ab_res scr 1 d M 91 [l0, l1, l2, l3, l4, l5, l6] (.int v0 :: st) = ab_res scr 1 d M 93 [l0, l1, l2, ab_nl l3, some (.int v0), l5, l6] (st) := (ab_o_st1 (k := 4) (ab_dc hc1 dX0_most_91) (Or.inl ⟨rfl, rfl, ⟨_, rfl⟩⟩) hn1 (by decide)).trans (ab_kl1 [l0, l1, l2] _ l3 rfl rfl)
theorem q1_93 {x : Int32} : ab_res scr 1 d M 93 [l0, l1, l2, l3, l4, some (.int x), l6] (st) = ab_res scr 1 d M 96 [l0, l1, l2, l3, ab_nl l4, some (.int (x + 1)), l6] (st) := (ab_o_iinc (k := 5) (ab_dc hc1 dX0_most_93) hn1 (by decide) rfl).trans (by rw [ki_iconst_1]; exact ab_kl1 [l0, l1, l2, l3] _ l4 rfl rfl)
theorem q1_96 : ab_res scr 1 d M 96 [l0, l1, l2, l3, l4, l5, l6] (st) = ab_res scr 1 d M 27 [l0, l1, l2, l3, l4, l5, l6] (st) := ab_o_goto (ab_dc hc1 dX0_most_96) (by decide)
theorem q1_99 {xr : Nat} : ab_res scr 1 d M 99 [some (.ref xr), l1, l2, l3, l4, l5, l6] (st) = ab_res scr 1 d M 100 [some (.ref xr), l1, l2, l3, l4, l5, l6] (.ref xr :: st) := ab_o_aload_n (ab_dc hc1 dX0_most_99) rfl
theorem q1_100 {v0 : Nat} : ab_res scr 1 d M 100 [l0, l1, l2, l3, l4, l5, l6] (.ref v0 :: st) = (ab_gF ab_L0 M v0 0 1).bind fun v => ab_res scr 1 d M 103 [l0, l1, l2, l3, l4, l5, l6] (v :: st) := ab_o_getfield (ab_dc hc1 dX0_most_100) hk1 lk_fl_0_9
theorem q1_103 {x : Int32} : ab_res scr 1 d M 103 [l0, l1, some (.int x), l3, l4, l5, l6] (st) = ab_res scr 1 d M 104 [l0, l1, some (.int x), l3, l4, l5, l6] (.int x :: st) := ab_o_iload_n (ab_dc hc1 dX0_most_103) rfl
theorem q1_104 {x : Int32} : ab_res scr 1 d M 104 [l0, l1, l2, l3, some (.int x), l5, l6] (st) = ab_res scr 1 d M 106 [l0, l1, l2, l3, some (.int x), l5, l6] (.int x :: st) := ab_o_iload (ab_dc hc1 dX0_most_104) rfl
theorem q1_106 {v0 : Int32} {v1 : Int32} {v2 : Nat} : ab_res scr 1 d M 106 [l0, l1, l2, l3, l4, l5, l6] (.int v0 :: .int v1 :: .ref v2 :: st) = if ab_si v2 .int v1 = true then ab_res scr 1 d (ab_up M v2 v1.toNatClampNeg v0) 107 [l0, l1, l2, l3, l4, l5, l6] (st) else none := ab_o_iastore (ab_dc hc1 dX0_most_106)
theorem q1_107 {xr : Nat} : ab_res scr 1 d M 107 [some (.ref xr), l1, l2, l3, l4, l5, l6] (st) = ab_res scr 1 d M 108 [some (.ref xr), l1, l2, l3, l4, l5, l6] (.ref xr :: st) := ab_o_aload_n (ab_dc hc1 dX0_most_107) rfl
theorem q1_108 {v0 : Nat} : ab_res scr 1 d M 108 [l0, l1, l2, l3, l4, l5, l6] (.ref v0 :: st) = (ab_gF ab_L0 M v0 0 2).bind fun v => ab_res scr 1 d M 111 [l0, l1, l2, l3, l4, l5, l6] (v :: st) := ab_o_getfield (ab_dc hc1 dX0_most_108) hk1 lk_fl_0_15
theorem q1_111 {x : Int32} : ab_res scr 1 d M 111 [l0, l1, some (.int x), l3, l4, l5, l6] (st) = ab_res scr 1 d M 112 [l0, l1, some (.int x), l3, l4, l5, l6] (.int x :: st) := ab_o_iload_n (ab_dc hc1 dX0_most_111) rfl
theorem q1_112 {x : Int32} : ab_res scr 1 d M 112 [l0, l1, l2, some (.int x), l4, l5, l6] (st) = ab_res scr 1 d M 113 [l0, l1, l2, some (.int x), l4, l5, l6] (.int x :: st) := ab_o_iload_n (ab_dc hc1 dX0_most_112) rfl
theorem q1_113 {x : Int32} : ab_res scr 1 d M 113 [l0, l1, l2, l3, some (.int x), l5, l6] (st) = ab_res scr 1 d M 115 [l0, l1, l2, l3, some (.int x), l5, l6] (.int x :: st) := ab_o_iload (ab_dc hc1 dX0_most_113) rfl
theorem q1_115 {v0 : Int32} : ab_res scr 1 d M 115 [l0, l1, l2, l3, l4, l5, l6] (.int v0 :: st) = if ¬ v0 = 0 then ab_res scr 1 d M 122 [l0, l1, l2, l3, l4, l5, l6] (st) else ab_res scr 1 d M 118 [l0, l1, l2, l3, l4, l5, l6] (st) := ab_o_br2 (off := 7) (ab_dc hc1 dX0_most_115) (by decide) rfl rfl
theorem q1_118 : ab_res scr 1 d M 118 [l0, l1, l2, l3, l4, l5, l6] (st) = ab_res scr 1 d M 119 [l0, l1, l2, l3, l4, l5, l6] (.int 1 :: st) := (ab_o_iconst (ab_dc hc1 dX0_most_118)).trans (by rw [ki_iconst_1])
theorem q1_119 : ab_res scr 1 d M 119 [l0, l1, l2, l3, l4, l5, l6] (st) = ab_res scr 1 d M 123 [l0, l1, l2, l3, l4, l5, l6] (st) := ab_o_goto (ab_dc hc1 dX0_most_119) (by decide)
theorem q1_122 : ab_res scr 1 d M 122 [l0, l1, l2, l3, l4, l5, l6] (st) = ab_res scr 1 d M 123 [l0, l1, l2, l3, l4, l5, l6] (.int 0 :: st) := (ab_o_iconst (ab_dc hc1 dX0_most_122)).trans (by rw [ki_iconst_0])
theorem q1_123 {v0 : Int32} {v1 : Int32} : ab_res scr 1 d M 123 [l0, l1, l2, l3, l4, l5, l6] (.int v0 :: .int v1 :: st) = ab_res scr 1 d M 124 [l0, l1, l2, l3, l4, l5, l6] (.int (v1 + v0) :: st) := ab_xg (ab_dc hc1 dX0_most_123) rfl rfl
theorem q1_124 {v0 : Int32} {v1 : Int32} {v2 : Nat} : ab_res scr 1 d M 124 [l0, l1, l2, l3, l4, l5, l6] (.int v0 :: .int v1 :: .ref v2 :: st) = if ab_si v2 .int v1 = true then ab_res scr 1 d (ab_up M v2 v1.toNatClampNeg v0) 125 [l0, l1, l2, l3, l4, l5, l6] (st) else none := ab_o_iastore (ab_dc hc1 dX0_most_124)
theorem q1_125 {x : Int32} : ab_res scr 1 d M 125 [l0, l1, some (.int x), l3, l4, l5, l6] (st) = ab_res scr 1 d M 128 [l0, ab_nl l1, some (.int (x + 1)), l3, l4, l5, l6] (st) := (ab_o_iinc (k := 2) (ab_dc hc1 dX0_most_125) hn1 (by decide) rfl).trans (by rw [ki_iconst_1]; exact ab_kl1 [l0] _ l1 rfl rfl)
theorem q1_128 : ab_res scr 1 d M 128 [l0, l1, l2, l3, l4, l5, l6] (st) = ab_res scr 1 d M 14 [l0, l1, l2, l3, l4, l5, l6] (st) := ab_o_goto (ab_dc hc1 dX0_most_128) (by decide)
theorem q1_131 {xr : Nat} : ab_res scr 1 d M 131 [some (.ref xr), l1, l2, l3, l4, l5, l6] (st) = ab_res scr 1 d M 132 [some (.ref xr), l1, l2, l3, l4, l5, l6] (.ref xr :: st) := ab_o_aload_n (ab_dc hc1 dX0_most_131) rfl
theorem q1_132 {v0 : Nat} : ab_res scr 1 d M 132 [l0, l1, l2, l3, l4, l5, l6] (.ref v0 :: st) = (ab_gF ab_L0 M v0 0 2).bind fun v => ab_res scr 1 d M 135 [l0, l1, l2, l3, l4, l5, l6] (v :: st) := ab_o_getfield (ab_dc hc1 dX0_most_132) hk1 lk_fl_0_15
theorem q1_135 {x : Int32} : ab_res scr 1 d M 135 [l0, some (.int x), l2, l3, l4, l5, l6] (st) = ab_res scr 1 d M 136 [l0, some (.int x), l2, l3, l4, l5, l6] (.int x :: st) := ab_o_iload_n (ab_dc hc1 dX0_most_135) rfl
theorem q1_136 {v0 : Int32} {v1 : Nat} : ab_res scr 1 d M 136 [l0, l1, l2, l3, l4, l5, l6] (.int v0 :: .ref v1 :: st) = (ab_ald scr ab_L0 M v1 .int v0).bind fun v => ab_res scr 1 d M 137 [l0, l1, l2, l3, l4, l5, l6] (.int v :: st) := ab_o_iaload (ab_dc hc1 dX0_most_136)
theorem q1_137 {v0 : Int32} : ab_res scr 1 d M 137 [l0, l1, l2, l3, l4, l5, l6] ([.int v0]) = some (M, some (.int v0)) := ab_o_ireturn (ab_dc hc1 dX0_most_137) hr1 rfl
end Q1
theorem hc3 : ab_code 3 = cX1_open := rfl
theorem hn3 : ab_nL 3 = 4 := rfl
theorem hk3 : ab_ky 3 = 1 := rfl
theorem hr3 : ab_ret 3 = none := rfl
section Q3
variable {scr : Option (List Int32)} {d : Nat} {M : ab_M} {st : List Value} {l0 l1 l2 l3 : Option Value}
theorem q3_0 {xr : Nat} : ab_res scr 3 d M 0 [some (.ref xr), l1, l2, l3] (st) = ab_res scr 3 d M 1 [some (.ref xr), l1, l2, l3] (.ref xr :: st) := ab_o_aload_n (ab_dc hc3 dX1_open_0) rfl
theorem q3_1 {x : Int32} : ab_res scr 3 d M 1 [l0, some (.int x), l2, l3] (st) = ab_res scr 3 d M 2 [l0, some (.int x), l2, l3] (.int x :: st) := ab_o_iload_n (ab_dc hc3 dX1_open_1) rfl
theorem q3_2 {v0 : Int32} {v1 : Nat} (hp : (ab_pt v1 1 8 v0 = true) = True) : ab_res scr 3 d M 2 [l0, l1, l2, l3] (.int v0 :: .ref v1 :: st) = ab_res scr 3 d (ab_up M v1 8 v0) 5 [l0, l1, l2, l3] (st) := ab_o_putfield (ab_dc hc3 dX1_open_2) hk3 lk_fl_1_39 (of_eq_true hp)
theorem q3_5 {xr : Nat} : ab_res scr 3 d M 5 [some (.ref xr), l1, l2, l3] (st) = ab_res scr 3 d M 6 [some (.ref xr), l1, l2, l3] (.ref xr :: st) := ab_o_aload_n (ab_dc hc3 dX1_open_5) rfl
theorem q3_6 {x : Int32} : ab_res scr 3 d M 6 [l0, l1, some (.int x), l3] (st) = ab_res scr 3 d M 7 [l0, l1, some (.int x), l3] (.int x :: st) := ab_o_iload_n (ab_dc hc3 dX1_open_6) rfl
theorem q3_7 {v0 : Int32} {v1 : Nat} (hp : (ab_pt v1 1 7 v0 = true) = True) : ab_res scr 3 d M 7 [l0, l1, l2, l3] (.int v0 :: .ref v1 :: st) = ab_res scr 3 d (ab_up M v1 7 v0) 10 [l0, l1, l2, l3] (st) := ab_o_putfield (ab_dc hc3 dX1_open_7) hk3 lk_fl_1_36 (of_eq_true hp)
theorem q3_10 {xr : Nat} : ab_res scr 3 d M 10 [some (.ref xr), l1, l2, l3] (st) = ab_res scr 3 d M 11 [some (.ref xr), l1, l2, l3] (.ref xr :: st) := ab_o_aload_n (ab_dc hc3 dX1_open_10) rfl
theorem q3_11 : ab_res scr 3 d M 11 [l0, l1, l2, l3] (st) = ab_res scr 3 d M 12 [l0, l1, l2, l3] (.int 1 :: st) := (ab_o_iconst (ab_dc hc3 dX1_open_11)).trans (by rw [ki_iconst_1])
theorem q3_12 {v0 : Int32} {v1 : Nat} (hp : (ab_pt v1 1 9 v0 = true) = True) : ab_res scr 3 d M 12 [l0, l1, l2, l3] (.int v0 :: .ref v1 :: st) = ab_res scr 3 d (ab_up M v1 9 v0) 15 [l0, l1, l2, l3] (st) := ab_o_putfield (ab_dc hc3 dX1_open_12) hk3 lk_fl_1_42 (of_eq_true hp)
theorem q3_15 {xr : Nat} : ab_res scr 3 d M 15 [some (.ref xr), l1, l2, l3] (st) = ab_res scr 3 d M 16 [some (.ref xr), l1, l2, l3] (.ref xr :: st) := ab_o_aload_n (ab_dc hc3 dX1_open_15) rfl
theorem q3_16 : ab_res scr 3 d M 16 [l0, l1, l2, l3] (st) = ab_res scr 3 d M 18 [l0, l1, l2, l3] (.int 7 :: st) := (ab_o_bipush (ab_dc hc3 dX1_open_16)).trans (by rw [ki_bipush_7])
theorem q3_18 {v0 : Int32} {v1 : Nat} (hp : (ab_pt v1 1 10 v0 = true) = True) : ab_res scr 3 d M 18 [l0, l1, l2, l3] (.int v0 :: .ref v1 :: st) = ab_res scr 3 d (ab_up M v1 10 v0) 21 [l0, l1, l2, l3] (st) := ab_o_putfield (ab_dc hc3 dX1_open_18) hk3 lk_fl_1_46 (of_eq_true hp)
theorem q3_21 {xr : Nat} : ab_res scr 3 d M 21 [some (.ref xr), l1, l2, l3] (st) = ab_res scr 3 d M 22 [some (.ref xr), l1, l2, l3] (.ref xr :: st) := ab_o_aload_n (ab_dc hc3 dX1_open_21) rfl
theorem q3_22 : ab_res scr 3 d M 22 [l0, l1, l2, l3] (st) = ab_res scr 3 d M 23 [l0, l1, l2, l3] (.int 0 :: st) := (ab_o_iconst (ab_dc hc3 dX1_open_22)).trans (by rw [ki_iconst_0])
theorem q3_23 {v0 : Int32} {v1 : Nat} (hp : (ab_pt v1 1 11 v0 = true) = True) : ab_res scr 3 d M 23 [l0, l1, l2, l3] (.int v0 :: .ref v1 :: st) = ab_res scr 3 d (ab_up M v1 11 v0) 26 [l0, l1, l2, l3] (st) := ab_o_putfield (ab_dc hc3 dX1_open_23) hk3 lk_fl_1_49 (of_eq_true hp)
theorem q3_26 : ab_res scr 3 d M 26 [l0, l1, l2, l3] (st) = ab_res scr 3 d M 27 [l0, l1, l2, l3] (.int 0 :: st) := (ab_o_iconst (ab_dc hc3 dX1_open_26)).trans (by rw [ki_iconst_0])
theorem q3_27 {v0 : Int32} : ab_res scr 3 d M 27 [l0, l1, l2, l3] (.int v0 :: st) = ab_res scr 3 d M 28 [l0, l1, ab_nl l2, some (.int v0)] (st) := (ab_o_st1 (k := 3) (ab_dc hc3 dX1_open_27) (Or.inr (Or.inr (Or.inl ⟨3, rfl, rfl, rfl, ⟨_, rfl⟩⟩))) hn3 (by decide)).trans (ab_kl1 [l0, l1] _ l2 rfl rfl)
theorem q3_28 {x : Int32} : ab_res scr 3 d M 28 [l0, l1, l2, some (.int x)] (st) = ab_res scr 3 d M 29 [l0, l1, l2, some (.int x)] (.int x :: st) := ab_o_iload_n (ab_dc hc3 dX1_open_28) rfl
theorem q3_29 {xr : Nat} : ab_res scr 3 d M 29 [some (.ref xr), l1, l2, l3] (st) = ab_res scr 3 d M 30 [some (.ref xr), l1, l2, l3] (.ref xr :: st) := ab_o_aload_n (ab_dc hc3 dX1_open_29) rfl
theorem q3_30 {v0 : Nat} : ab_res scr 3 d M 30 [l0, l1, l2, l3] (.ref v0 :: st) = (ab_gF ab_L0 M v0 1 0).bind fun v => ab_res scr 3 d M 33 [l0, l1, l2, l3] (v :: st) := ab_o_getfield (ab_dc hc3 dX1_open_30) hk3 lk_fl_1_58
theorem q3_33 {v0 : Nat} : ab_res scr 3 d M 33 [l0, l1, l2, l3] (.ref v0 :: st) = (ab_gF ab_L0 M v0 4 3).bind fun v => ab_res scr 3 d M 36 [l0, l1, l2, l3] (v :: st) := ab_o_getfield (ab_dc hc3 dX1_open_33) hk3 lk_fl_1_64
theorem q3_36 {v0 : Int32} {v1 : Int32} : ab_res scr 3 d M 36 [l0, l1, l2, l3] (.int v0 :: .int v1 :: st) = if v0 ≤ v1 then ab_res scr 3 d M 76 [l0, l1, l2, l3] (st) else ab_res scr 3 d M 39 [l0, l1, l2, l3] (st) := ab_o_br2 (off := 40) (ab_dc hc3 dX1_open_36) (by decide) rfl rfl
theorem q3_39 {xr : Nat} : ab_res scr 3 d M 39 [some (.ref xr), l1, l2, l3] (st) = ab_res scr 3 d M 40 [some (.ref xr), l1, l2, l3] (.ref xr :: st) := ab_o_aload_n (ab_dc hc3 dX1_open_39) rfl
theorem q3_40 {v0 : Nat} : ab_res scr 3 d M 40 [l0, l1, l2, l3] (.ref v0 :: st) = (ab_gF ab_L0 M v0 1 1).bind fun v => ab_res scr 3 d M 43 [l0, l1, l2, l3] (v :: st) := ab_o_getfield (ab_dc hc3 dX1_open_40) hk3 lk_fl_1_11
theorem q3_43 {x : Int32} : ab_res scr 3 d M 43 [l0, l1, l2, some (.int x)] (st) = ab_res scr 3 d M 44 [l0, l1, l2, some (.int x)] (.int x :: st) := ab_o_iload_n (ab_dc hc3 dX1_open_43) rfl
theorem q3_44 {v0 : Int32} {v1 : Nat} : ab_res scr 3 d M 44 [l0, l1, l2, l3] (.int v0 :: .ref v1 :: st) = (ab_qe v1 v0).bind fun v => ab_res scr 3 d M 45 [l0, l1, l2, l3] (v :: st) := ab_o_aaload (ab_dc hc3 dX1_open_44)
theorem q3_45 {xr : Nat} : ab_res scr 3 d M 45 [some (.ref xr), l1, l2, l3] (st) = ab_res scr 3 d M 46 [some (.ref xr), l1, l2, l3] (.ref xr :: st) := ab_o_aload_n (ab_dc hc3 dX1_open_45) rfl
theorem q3_46 {v0 : Nat} : ab_res scr 3 d M 46 [l0, l1, l2, l3] (.ref v0 :: st) = (ab_gF ab_L0 M v0 1 0).bind fun v => ab_res scr 3 d M 49 [l0, l1, l2, l3] (v :: st) := ab_o_getfield (ab_dc hc3 dX1_open_46) hk3 lk_fl_1_58
theorem q3_49 {v0 : Nat} : ab_res scr 3 d M 49 [l0, l1, l2, l3] (.ref v0 :: st) = (ab_gF ab_L0 M v0 4 0).bind fun v => ab_res scr 3 d M 52 [l0, l1, l2, l3] (v :: st) := ab_o_getfield (ab_dc hc3 dX1_open_49) hk3 lk_fl_1_67
theorem q3_52 : ab_res scr 3 d M 52 [l0, l1, l2, l3] (st) = ab_res scr 3 d M 54 [l0, l1, l2, l3] (.int 7 :: st) := (ab_o_bipush (ab_dc hc3 dX1_open_52)).trans (by rw [ki_bipush_7])
theorem q3_54 {v0 : Int32} {v1 : Nat} : ab_res scr 3 d M 54 [l0, l1, l2, l3] (.int v0 :: .ref v1 :: st) = (ab_qe v1 v0).bind fun v => ab_res scr 3 d M 55 [l0, l1, l2, l3] (v :: st) := ab_o_aaload (ab_dc hc3 dX1_open_54)
theorem q3_55 {x : Int32} : ab_res scr 3 d M 55 [l0, l1, l2, some (.int x)] (st) = ab_res scr 3 d M 56 [l0, l1, l2, some (.int x)] (.int x :: st) := ab_o_iload_n (ab_dc hc3 dX1_open_55) rfl
theorem q3_56 {v0 : Int32} {v1 : Nat} : ab_res scr 3 d M 56 [l0, l1, l2, l3] (.int v0 :: .ref v1 :: st) = (ab_ald scr ab_L0 M v1 .int v0).bind fun v => ab_res scr 3 d M 57 [l0, l1, l2, l3] (.int v :: st) := ab_o_iaload (ab_dc hc3 dX1_open_56)
theorem q3_57 {v0 : Int32} {v1 : Nat} (hp : (ab_pt v1 7 0 v0 = true) = True) : ab_res scr 3 d M 57 [l0, l1, l2, l3] (.int v0 :: .ref v1 :: st) = ab_res scr 3 d (ab_up M v1 0 v0) 60 [l0, l1, l2, l3] (st) := ab_o_putfield (ab_dc hc3 dX1_open_57) hk3 lk_fl_1_71 (of_eq_true hp)
theorem q3_60 {xr : Nat} : ab_res scr 3 d M 60 [some (.ref xr), l1, l2, l3] (st) = ab_res scr 3 d M 61 [some (.ref xr), l1, l2, l3] (.ref xr :: st) := ab_o_aload_n (ab_dc hc3 dX1_open_60) rfl
theorem q3_61 {v0 : Nat} : ab_res scr 3 d M 61 [l0, l1, l2, l3] (.ref v0 :: st) = (ab_gF ab_L0 M v0 1 1).bind fun v => ab_res scr 3 d M 64 [l0, l1, l2, l3] (v :: st) := ab_o_getfield (ab_dc hc3 dX1_open_61) hk3 lk_fl_1_11
theorem q3_64 {x : Int32} : ab_res scr 3 d M 64 [l0, l1, l2, some (.int x)] (st) = ab_res scr 3 d M 65 [l0, l1, l2, some (.int x)] (.int x :: st) := ab_o_iload_n (ab_dc hc3 dX1_open_64) rfl
theorem q3_65 {v0 : Int32} {v1 : Nat} : ab_res scr 3 d M 65 [l0, l1, l2, l3] (.int v0 :: .ref v1 :: st) = (ab_qe v1 v0).bind fun v => ab_res scr 3 d M 66 [l0, l1, l2, l3] (v :: st) := ab_o_aaload (ab_dc hc3 dX1_open_65)
theorem q3_66 : ab_res scr 3 d M 66 [l0, l1, l2, l3] (st) = ab_res scr 3 d M 67 [l0, l1, l2, l3] (.int 0 :: st) := (ab_o_iconst (ab_dc hc3 dX1_open_66)).trans (by rw [ki_iconst_0])
theorem q3_67 {v0 : Int32} {v1 : Nat} (hp : (ab_pt v1 7 7 v0 = true) = True) : ab_res scr 3 d M 67 [l0, l1, l2, l3] (.int v0 :: .ref v1 :: st) = ab_res scr 3 d (ab_up M v1 7 v0) 70 [l0, l1, l2, l3] (st) := ab_o_putfield (ab_dc hc3 dX1_open_67) hk3 lk_fl_1_74 (of_eq_true hp)
theorem q3_70 {x : Int32} : ab_res scr 3 d M 70 [l0, l1, l2, some (.int x)] (st) = ab_res scr 3 d M 73 [l0, l1, ab_nl l2, some (.int (x + 1))] (st) := (ab_o_iinc (k := 3) (ab_dc hc3 dX1_open_70) hn3 (by decide) rfl).trans (by rw [ki_iconst_1]; exact ab_kl1 [l0, l1] _ l2 rfl rfl)
theorem q3_73 : ab_res scr 3 d M 73 [l0, l1, l2, l3] (st) = ab_res scr 3 d M 28 [l0, l1, l2, l3] (st) := ab_o_goto (ab_dc hc3 dX1_open_73) (by decide)
theorem q3_76 : ab_res scr 3 d M 76 [l0, l1, l2, l3] ([]) = some (M, none) := ab_o_return (ab_dc hc3 dX1_open_76) hr3
end Q3
theorem hc4 : ab_code 4 = cX1_openWithoutPurses := rfl
theorem hn4 : ab_nL 4 = 1 := rfl
theorem hk4 : ab_ky 4 = 1 := rfl
theorem hr4 : ab_ret 4 = none := rfl
section Q4
variable {scr : Option (List Int32)} {d : Nat} {M : ab_M} {st : List Value} {l0 : Option Value}
theorem q4_0 {xr : Nat} : ab_res scr 4 d M 0 [some (.ref xr)] (st) = ab_res scr 4 d M 1 [some (.ref xr)] (.ref xr :: st) := ab_o_aload_n (ab_dc hc4 dX1_openWithoutPurses_0) rfl
theorem q4_1 : ab_res scr 4 d M 1 [l0] (st) = ab_res scr 4 d M 2 [l0] (.int 0 :: st) := (ab_o_iconst (ab_dc hc4 dX1_openWithoutPurses_1)).trans (by rw [ki_iconst_0])
theorem q4_2 : ab_res scr 4 d M 2 [l0] (st) = ab_res scr 4 d M 3 [l0] (.int 0 :: st) := (ab_o_iconst (ab_dc hc4 dX1_openWithoutPurses_2)).trans (by rw [ki_iconst_0])
theorem q4_3 {v0 : Int32} {v1 : Int32} {v2 : Nat} (hb : (ab_rc ab_L0 v2 = some 1) = True) : ab_res scr 4 2 M 3 [l0] ([.int v0, .int v1, .ref v2]) = (ab_ms scr 3 [.ref v2, .int v1, .int v0] M).bind fun o => ab_res scr 4 2 o.1 6 [l0] (ab_pr o.2 []) := ab_o_virtual (ab_dc hc4 dX1_openWithoutPurses_3) hk4 lk_ca_1_77 hm3 (Nat.le_of_ble_eq_true rfl) rfl rfl rfl (of_eq_true hb) rfl rfl
theorem q4_6 {xr : Nat} : ab_res scr 4 d M 6 [some (.ref xr)] (st) = ab_res scr 4 d M 7 [some (.ref xr)] (.ref xr :: st) := ab_o_aload_n (ab_dc hc4 dX1_openWithoutPurses_6) rfl
theorem q4_7 : ab_res scr 4 d M 7 [l0] (st) = ab_res scr 4 d M 8 [l0] (.int 0 :: st) := (ab_o_iconst (ab_dc hc4 dX1_openWithoutPurses_7)).trans (by rw [ki_iconst_0])
theorem q4_8 {v0 : Int32} {v1 : Nat} (hp : (ab_pt v1 1 9 v0 = true) = True) : ab_res scr 4 d M 8 [l0] (.int v0 :: .ref v1 :: st) = ab_res scr 4 d (ab_up M v1 9 v0) 11 [l0] (st) := ab_o_putfield (ab_dc hc4 dX1_openWithoutPurses_8) hk4 lk_fl_1_42 (of_eq_true hp)
theorem q4_11 : ab_res scr 4 d M 11 [l0] ([]) = some (M, none) := ab_o_return (ab_dc hc4 dX1_openWithoutPurses_11) hr4
end Q4
theorem hc5 : ab_code 5 = cX1_carryOn := rfl
theorem hn5 : ab_nL 5 = 2 := rfl
theorem hk5 : ab_ky 5 = 1 := rfl
theorem hr5 : ab_ret 5 = none := rfl
section Q5
variable {scr : Option (List Int32)} {d : Nat} {M : ab_M} {st : List Value} {l0 l1 : Option Value}
theorem q5_0 : ab_res scr 5 d M 0 [l0, l1] (st) = ab_res scr 5 d M 1 [l0, l1] (.int 0 :: st) := (ab_o_iconst (ab_dc hc5 dX1_carryOn_0)).trans (by rw [ki_iconst_0])
theorem q5_1 {v0 : Int32} : ab_res scr 5 d M 1 [l0, l1] (.int v0 :: st) = ab_res scr 5 d M 2 [ab_nl l0, some (.int v0)] (st) := (ab_o_st1 (k := 1) (ab_dc hc5 dX1_carryOn_1) (Or.inr (Or.inr (Or.inl ⟨1, rfl, rfl, rfl, ⟨_, rfl⟩⟩))) hn5 (by decide)).trans (ab_kl1 [] _ l0 rfl rfl)
theorem q5_2 {x : Int32} : ab_res scr 5 d M 2 [l0, some (.int x)] (st) = ab_res scr 5 d M 3 [l0, some (.int x)] (.int x :: st) := ab_o_iload_n (ab_dc hc5 dX1_carryOn_2) rfl
theorem q5_3 {xr : Nat} : ab_res scr 5 d M 3 [some (.ref xr), l1] (st) = ab_res scr 5 d M 4 [some (.ref xr), l1] (.ref xr :: st) := ab_o_aload_n (ab_dc hc5 dX1_carryOn_3) rfl
theorem q5_4 {v0 : Nat} : ab_res scr 5 d M 4 [l0, l1] (.ref v0 :: st) = (ab_gF ab_L0 M v0 1 0).bind fun v => ab_res scr 5 d M 7 [l0, l1] (v :: st) := ab_o_getfield (ab_dc hc5 dX1_carryOn_4) hk5 lk_fl_1_58
theorem q5_7 {v0 : Nat} : ab_res scr 5 d M 7 [l0, l1] (.ref v0 :: st) = (ab_gF ab_L0 M v0 4 3).bind fun v => ab_res scr 5 d M 10 [l0, l1] (v :: st) := ab_o_getfield (ab_dc hc5 dX1_carryOn_7) hk5 lk_fl_1_64
theorem q5_10 {v0 : Int32} {v1 : Int32} : ab_res scr 5 d M 10 [l0, l1] (.int v0 :: .int v1 :: st) = if v0 ≤ v1 then ab_res scr 5 d M 37 [l0, l1] (st) else ab_res scr 5 d M 13 [l0, l1] (st) := ab_o_br2 (off := 27) (ab_dc hc5 dX1_carryOn_10) (by decide) rfl rfl
theorem q5_13 {xr : Nat} : ab_res scr 5 d M 13 [some (.ref xr), l1] (st) = ab_res scr 5 d M 14 [some (.ref xr), l1] (.ref xr :: st) := ab_o_aload_n (ab_dc hc5 dX1_carryOn_13) rfl
theorem q5_14 {v0 : Nat} : ab_res scr 5 d M 14 [l0, l1] (.ref v0 :: st) = (ab_gF ab_L0 M v0 1 1).bind fun v => ab_res scr 5 d M 17 [l0, l1] (v :: st) := ab_o_getfield (ab_dc hc5 dX1_carryOn_14) hk5 lk_fl_1_11
theorem q5_17 {x : Int32} : ab_res scr 5 d M 17 [l0, some (.int x)] (st) = ab_res scr 5 d M 18 [l0, some (.int x)] (.int x :: st) := ab_o_iload_n (ab_dc hc5 dX1_carryOn_17) rfl
theorem q5_18 {v0 : Int32} {v1 : Nat} : ab_res scr 5 d M 18 [l0, l1] (.int v0 :: .ref v1 :: st) = (ab_qe v1 v0).bind fun v => ab_res scr 5 d M 19 [l0, l1] (v :: st) := ab_o_aaload (ab_dc hc5 dX1_carryOn_18)
theorem q5_19 {xr : Nat} : ab_res scr 5 d M 19 [some (.ref xr), l1] (st) = ab_res scr 5 d M 20 [some (.ref xr), l1] (.ref xr :: st) := ab_o_aload_n (ab_dc hc5 dX1_carryOn_19) rfl
theorem q5_20 {v0 : Nat} : ab_res scr 5 d M 20 [l0, l1] (.ref v0 :: st) = (ab_gF ab_L0 M v0 1 1).bind fun v => ab_res scr 5 d M 23 [l0, l1] (v :: st) := ab_o_getfield (ab_dc hc5 dX1_carryOn_20) hk5 lk_fl_1_11
theorem q5_23 {x : Int32} : ab_res scr 5 d M 23 [l0, some (.int x)] (st) = ab_res scr 5 d M 24 [l0, some (.int x)] (.int x :: st) := ab_o_iload_n (ab_dc hc5 dX1_carryOn_23) rfl
theorem q5_24 {v0 : Int32} {v1 : Nat} : ab_res scr 5 d M 24 [l0, l1] (.int v0 :: .ref v1 :: st) = (ab_qe v1 v0).bind fun v => ab_res scr 5 d M 25 [l0, l1] (v :: st) := ab_o_aaload (ab_dc hc5 dX1_carryOn_24)
theorem q5_25 {v0 : Nat} {v1 : Nat} (hb : (ab_rc ab_L0 v0 = some 7) = True) : ab_res scr 5 2 M 25 [l0, l1] ([.ref v0, .ref v1]) = (ab_ms scr 53 [.ref v0] M).bind fun o => ab_res scr 5 2 o.1 28 [l0, l1] (ab_pr o.2 [.ref v1]) := ab_o_virtual (ab_dc hc5 dX1_carryOn_25) hk5 lk_ca_1_81 hm53 (Nat.le_of_ble_eq_true rfl) rfl rfl rfl (of_eq_true hb) rfl rfl
theorem q5_28 {v0 : Int32} {v1 : Nat} (hp : (ab_pt v1 7 0 v0 = true) = True) : ab_res scr 5 d M 28 [l0, l1] (.int v0 :: .ref v1 :: st) = ab_res scr 5 d (ab_up M v1 0 v0) 31 [l0, l1] (st) := ab_o_putfield (ab_dc hc5 dX1_carryOn_28) hk5 lk_fl_1_71 (of_eq_true hp)
theorem q5_31 {x : Int32} : ab_res scr 5 d M 31 [l0, some (.int x)] (st) = ab_res scr 5 d M 34 [ab_nl l0, some (.int (x + 1))] (st) := (ab_o_iinc (k := 1) (ab_dc hc5 dX1_carryOn_31) hn5 (by decide) rfl).trans (by rw [ki_iconst_1]; exact ab_kl1 [] _ l0 rfl rfl)
theorem q5_34 : ab_res scr 5 d M 34 [l0, l1] (st) = ab_res scr 5 d M 2 [l0, l1] (st) := ab_o_goto (ab_dc hc5 dX1_carryOn_34) (by decide)
theorem q5_37 : ab_res scr 5 d M 37 [l0, l1] ([]) = some (M, none) := ab_o_return (ab_dc hc5 dX1_carryOn_37) hr5
end Q5
theorem hc6 : ab_code 6 = cX1_play := rfl
theorem hn6 : ab_nL 6 = 6 := rfl
theorem hk6 : ab_ky 6 = 1 := rfl
theorem hr6 : ab_ret 6 = none := rfl
section Q6
variable {scr : Option (List Int32)} {d : Nat} {M : ab_M} {st : List Value} {l0 l1 l2 l3 l4 l5 : Option Value}
theorem q6_0 {xr : Nat} : ab_res scr 6 d M 0 [some (.ref xr), l1, l2, l3, l4, l5] (st) = ab_res scr 6 d M 1 [some (.ref xr), l1, l2, l3, l4, l5] (.ref xr :: st) := ab_o_aload_n (ab_dc hc6 dX1_play_0) rfl
theorem q6_1 {v0 : Nat} (hb : (ab_rc ab_L0 v0 = some 1) = True) : ab_res scr 6 6 M 1 [l0, l1, l2, l3, l4, l5] ([.ref v0]) = (ab_ms scr 7 [.ref v0] M).bind fun o => ab_res scr 6 6 o.1 4 [l0, l1, l2, l3, l4, l5] (ab_pr o.2 []) := ab_o_virtual (ab_dc hc6 dX1_play_1) hk6 lk_ca_1_85 hm7 (Nat.le_of_ble_eq_true rfl) rfl rfl rfl (of_eq_true hb) rfl rfl
theorem q6_4 : ab_res scr 6 d M 4 [l0, l1, l2, l3, l4, l5] (st) = ab_res scr 6 d M 5 [l0, l1, l2, l3, l4, l5] (.int 0 :: st) := (ab_o_iconst (ab_dc hc6 dX1_play_4)).trans (by rw [ki_iconst_0])
theorem q6_5 {v0 : Int32} : ab_res scr 6 d M 5 [l0, l1, l2, l3, l4, l5] (.int v0 :: st) = ab_res scr 6 d M 6 [ab_nl l0, some (.int v0), l2, l3, l4, l5] (st) := (ab_o_st1 (k := 1) (ab_dc hc6 dX1_play_5) (Or.inr (Or.inr (Or.inl ⟨1, rfl, rfl, rfl, ⟨_, rfl⟩⟩))) hn6 (by decide)).trans (ab_kl1 [] _ l0 rfl rfl)
theorem q6_6 : ab_res scr 6 d M 6 [l0, l1, l2, l3, l4, l5] (st) = ab_res scr 6 d M 7 [l0, l1, l2, l3, l4, l5] (.int 0 :: st) := (ab_o_iconst (ab_dc hc6 dX1_play_6)).trans (by rw [ki_iconst_0])
theorem q6_7 {v0 : Int32} : ab_res scr 6 d M 7 [l0, l1, l2, l3, l4, l5] (.int v0 :: st) = ab_res scr 6 d M 8 [l0, ab_nl l1, some (.int v0), l3, l4, l5] (st) := (ab_o_st1 (k := 2) (ab_dc hc6 dX1_play_7) (Or.inr (Or.inr (Or.inl ⟨2, rfl, rfl, rfl, ⟨_, rfl⟩⟩))) hn6 (by decide)).trans (ab_kl1 [l0] _ l1 rfl rfl)
theorem q6_8 : ab_res scr 6 d M 8 [l0, l1, l2, l3, l4, l5] (st) = ab_res scr 6 d M 9 [l0, l1, l2, l3, l4, l5] (.int 0 :: st) := (ab_o_iconst (ab_dc hc6 dX1_play_8)).trans (by rw [ki_iconst_0])
theorem q6_9 {v0 : Int32} : ab_res scr 6 d M 9 [l0, l1, l2, l3, l4, l5] (.int v0 :: st) = ab_res scr 6 d M 10 [l0, l1, ab_nl l2, some (.int v0), l4, l5] (st) := (ab_o_st1 (k := 3) (ab_dc hc6 dX1_play_9) (Or.inr (Or.inr (Or.inl ⟨3, rfl, rfl, rfl, ⟨_, rfl⟩⟩))) hn6 (by decide)).trans (ab_kl1 [l0, l1] _ l2 rfl rfl)
theorem q6_10 {x : Int32} : ab_res scr 6 d M 10 [l0, l1, l2, some (.int x), l4, l5] (st) = ab_res scr 6 d M 11 [l0, l1, l2, some (.int x), l4, l5] (.int x :: st) := ab_o_iload_n (ab_dc hc6 dX1_play_10) rfl
theorem q6_11 : ab_res scr 6 d M 11 [l0, l1, l2, l3, l4, l5] (st) = ab_res scr 6 d M 14 [l0, l1, l2, l3, l4, l5] (.int 240 :: st) := (ab_o_sipush (ab_dc hc6 dX1_play_11)).trans (by rw [ki_sipush_240])
theorem q6_14 {v0 : Int32} {v1 : Int32} : ab_res scr 6 d M 14 [l0, l1, l2, l3, l4, l5] (.int v0 :: .int v1 :: st) = if v0 ≤ v1 then ab_res scr 6 d M 106 [l0, l1, l2, l3, l4, l5] (st) else ab_res scr 6 d M 17 [l0, l1, l2, l3, l4, l5] (st) := ab_o_br2 (off := 92) (ab_dc hc6 dX1_play_14) (by decide) rfl rfl
theorem q6_17 {x : Int32} : ab_res scr 6 d M 17 [l0, l1, l2, some (.int x), l4, l5] (st) = ab_res scr 6 d M 18 [l0, l1, l2, some (.int x), l4, l5] (.int x :: st) := ab_o_iload_n (ab_dc hc6 dX1_play_17) rfl
theorem q6_18 {x : Int32} : ab_res scr 6 d M 18 [l0, some (.int x), l2, l3, l4, l5] (st) = ab_res scr 6 d M 19 [l0, some (.int x), l2, l3, l4, l5] (.int x :: st) := ab_o_iload_n (ab_dc hc6 dX1_play_18) rfl
theorem q6_19 {v0 : Int32} {v1 : Int32} : ab_res scr 6 d M 19 [l0, l1, l2, l3, l4, l5] (.int v0 :: .int v1 :: st) = if v1 < v0 then ab_res scr 6 d M 86 [l0, l1, l2, l3, l4, l5] (st) else ab_res scr 6 d M 22 [l0, l1, l2, l3, l4, l5] (st) := ab_o_br2 (off := 67) (ab_dc hc6 dX1_play_19) (by decide) rfl rfl
theorem q6_22 {xr : Nat} : ab_res scr 6 d M 22 [some (.ref xr), l1, l2, l3, l4, l5] (st) = ab_res scr 6 d M 23 [some (.ref xr), l1, l2, l3, l4, l5] (.ref xr :: st) := ab_o_aload_n (ab_dc hc6 dX1_play_22) rfl
theorem q6_23 {x : Int32} : ab_res scr 6 d M 23 [l0, l1, l2, some (.int x), l4, l5] (st) = ab_res scr 6 d M 24 [l0, l1, l2, some (.int x), l4, l5] (.int x :: st) := ab_o_iload_n (ab_dc hc6 dX1_play_23) rfl
theorem q6_24 {v0 : Int32} {v1 : Nat} (hb : (ab_rc ab_L0 v1 = some 1) = True) : ab_res scr 6 6 M 24 [l0, l1, l2, l3, l4, l5] ([.int v0, .ref v1]) = (ab_ms scr 8 [.ref v1, .int v0] M).bind fun o => ab_res scr 6 6 o.1 27 [l0, l1, l2, l3, l4, l5] (ab_pr o.2 []) := ab_o_virtual (ab_dc hc6 dX1_play_24) hk6 lk_ca_1_88 hm8 (Nat.le_of_ble_eq_true rfl) rfl rfl rfl (of_eq_true hb) rfl rfl
theorem q6_27 {xr : Nat} : ab_res scr 6 d M 27 [some (.ref xr), l1, l2, l3, l4, l5] (st) = ab_res scr 6 d M 28 [some (.ref xr), l1, l2, l3, l4, l5] (.ref xr :: st) := ab_o_aload_n (ab_dc hc6 dX1_play_27) rfl
theorem q6_28 {v0 : Nat} (hb : (ab_rc ab_L0 v0 = some 1) = True) : ab_res scr 6 6 M 28 [l0, l1, l2, l3, l4, l5] ([.ref v0]) = (ab_ms scr 13 [.ref v0] M).bind fun o => ab_res scr 6 6 o.1 31 [l0, l1, l2, l3, l4, l5] (ab_pr o.2 []) := ab_o_virtual (ab_dc hc6 dX1_play_28) hk6 lk_ca_1_92 hm13 (Nat.le_of_ble_eq_true rfl) rfl rfl rfl (of_eq_true hb) rfl rfl
theorem q6_31 {v0 : Int32} : ab_res scr 6 d M 31 [l0, l1, l2, l3, l4, l5] (.int v0 :: st) = ab_res scr 6 d M 33 [l0, l1, l2, ab_nl l3, some (.int v0), l5] (st) := (ab_o_st1 (k := 4) (ab_dc hc6 dX1_play_31) (Or.inl ⟨rfl, rfl, ⟨_, rfl⟩⟩) hn6 (by decide)).trans (ab_kl1 [l0, l1, l2] _ l3 rfl rfl)
theorem q6_33 {x : Int32} : ab_res scr 6 d M 33 [l0, l1, l2, l3, some (.int x), l5] (st) = ab_res scr 6 d M 35 [l0, l1, l2, l3, some (.int x), l5] (.int x :: st) := ab_o_iload (ab_dc hc6 dX1_play_33) rfl
theorem q6_35 {v0 : Int32} : ab_res scr 6 d M 35 [l0, l1, l2, l3, l4, l5] (.int v0 :: st) = if v0 = 0 then ab_res scr 6 d M 50 [l0, l1, l2, l3, l4, l5] (st) else ab_res scr 6 d M 38 [l0, l1, l2, l3, l4, l5] (st) := ab_o_br2 (off := 15) (ab_dc hc6 dX1_play_35) (by decide) rfl rfl
theorem q6_38 {xr : Nat} : ab_res scr 6 d M 38 [some (.ref xr), l1, l2, l3, l4, l5] (st) = ab_res scr 6 d M 39 [some (.ref xr), l1, l2, l3, l4, l5] (.ref xr :: st) := ab_o_aload_n (ab_dc hc6 dX1_play_38) rfl
theorem q6_39 {x : Int32} : ab_res scr 6 d M 39 [l0, l1, l2, some (.int x), l4, l5] (st) = ab_res scr 6 d M 40 [l0, l1, l2, some (.int x), l4, l5] (.int x :: st) := ab_o_iload_n (ab_dc hc6 dX1_play_39) rfl
theorem q6_40 {v0 : Int32} {v1 : Nat} (hb : (ab_rc ab_L0 v1 = some 1) = True) : ab_res scr 6 6 M 40 [l0, l1, l2, l3, l4, l5] ([.int v0, .ref v1]) = (ab_ms scr 14 [.ref v1, .int v0] M).bind fun o => ab_res scr 6 6 o.1 43 [l0, l1, l2, l3, l4, l5] (ab_pr o.2 []) := ab_o_virtual (ab_dc hc6 dX1_play_40) hk6 lk_ca_1_96 hm14 (Nat.le_of_ble_eq_true rfl) rfl rfl rfl (of_eq_true hb) rfl rfl
theorem q6_43 {v0 : Int32} : ab_res scr 6 d M 43 [l0, l1, l2, l3, l4, l5] (.int v0 :: st) = if v0 = 0 then ab_res scr 6 d M 50 [l0, l1, l2, l3, l4, l5] (st) else ab_res scr 6 d M 46 [l0, l1, l2, l3, l4, l5] (st) := ab_o_br2 (off := 7) (ab_dc hc6 dX1_play_43) (by decide) rfl rfl
theorem q6_46 : ab_res scr 6 d M 46 [l0, l1, l2, l3, l4, l5] (st) = ab_res scr 6 d M 47 [l0, l1, l2, l3, l4, l5] (.int 1 :: st) := (ab_o_iconst (ab_dc hc6 dX1_play_46)).trans (by rw [ki_iconst_1])
theorem q6_47 : ab_res scr 6 d M 47 [l0, l1, l2, l3, l4, l5] (st) = ab_res scr 6 d M 51 [l0, l1, l2, l3, l4, l5] (st) := ab_o_goto (ab_dc hc6 dX1_play_47) (by decide)
theorem q6_50 : ab_res scr 6 d M 50 [l0, l1, l2, l3, l4, l5] (st) = ab_res scr 6 d M 51 [l0, l1, l2, l3, l4, l5] (.int 0 :: st) := (ab_o_iconst (ab_dc hc6 dX1_play_50)).trans (by rw [ki_iconst_0])
theorem q6_51 {v0 : Int32} : ab_res scr 6 d M 51 [l0, l1, l2, l3, l4, l5] (.int v0 :: st) = ab_res scr 6 d M 53 [l0, l1, l2, l3, ab_nl l4, some (.int v0)] (st) := (ab_o_st1 (k := 5) (ab_dc hc6 dX1_play_51) (Or.inl ⟨rfl, rfl, ⟨_, rfl⟩⟩) hn6 (by decide)).trans (ab_kl1 [l0, l1, l2, l3] _ l4 rfl rfl)
theorem q6_53 {x : Int32} : ab_res scr 6 d M 53 [l0, l1, l2, l3, some (.int x), l5] (st) = ab_res scr 6 d M 55 [l0, l1, l2, l3, some (.int x), l5] (.int x :: st) := ab_o_iload (ab_dc hc6 dX1_play_53) rfl
theorem q6_55 {v0 : Int32} : ab_res scr 6 d M 55 [l0, l1, l2, l3, l4, l5] (.int v0 :: st) = if v0 = 0 then ab_res scr 6 d M 67 [l0, l1, l2, l3, l4, l5] (st) else ab_res scr 6 d M 58 [l0, l1, l2, l3, l4, l5] (st) := ab_o_br2 (off := 12) (ab_dc hc6 dX1_play_55) (by decide) rfl rfl
theorem q6_58 {x : Int32} : ab_res scr 6 d M 58 [l0, l1, l2, l3, l4, some (.int x)] (st) = ab_res scr 6 d M 60 [l0, l1, l2, l3, l4, some (.int x)] (.int x :: st) := ab_o_iload (ab_dc hc6 dX1_play_58) rfl
theorem q6_60 {v0 : Int32} : ab_res scr 6 d M 60 [l0, l1, l2, l3, l4, l5] (.int v0 :: st) = if ¬ v0 = 0 then ab_res scr 6 d M 67 [l0, l1, l2, l3, l4, l5] (st) else ab_res scr 6 d M 63 [l0, l1, l2, l3, l4, l5] (st) := ab_o_br2 (off := 7) (ab_dc hc6 dX1_play_60) (by decide) rfl rfl
theorem q6_63 : ab_res scr 6 d M 63 [l0, l1, l2, l3, l4, l5] (st) = ab_res scr 6 d M 64 [l0, l1, l2, l3, l4, l5] (.int 1 :: st) := (ab_o_iconst (ab_dc hc6 dX1_play_63)).trans (by rw [ki_iconst_1])
theorem q6_64 : ab_res scr 6 d M 64 [l0, l1, l2, l3, l4, l5] (st) = ab_res scr 6 d M 68 [l0, l1, l2, l3, l4, l5] (st) := ab_o_goto (ab_dc hc6 dX1_play_64) (by decide)
theorem q6_67 : ab_res scr 6 d M 67 [l0, l1, l2, l3, l4, l5] (st) = ab_res scr 6 d M 68 [l0, l1, l2, l3, l4, l5] (.int 0 :: st) := (ab_o_iconst (ab_dc hc6 dX1_play_67)).trans (by rw [ki_iconst_0])
theorem q6_68 {v0 : Int32} : ab_res scr 6 d M 68 [l0, l1, l2, l3, l4, l5] (.int v0 :: st) = ab_res scr 6 d M 69 [l0, ab_nl l1, some (.int v0), l3, l4, l5] (st) := (ab_o_st1 (k := 2) (ab_dc hc6 dX1_play_68) (Or.inr (Or.inr (Or.inl ⟨2, rfl, rfl, rfl, ⟨_, rfl⟩⟩))) hn6 (by decide)).trans (ab_kl1 [l0] _ l1 rfl rfl)
theorem q6_69 {x : Int32} : ab_res scr 6 d M 69 [l0, l1, l2, l3, l4, some (.int x)] (st) = ab_res scr 6 d M 71 [l0, l1, l2, l3, l4, some (.int x)] (.int x :: st) := ab_o_iload (ab_dc hc6 dX1_play_69) rfl
theorem q6_71 {v0 : Int32} : ab_res scr 6 d M 71 [l0, l1, l2, l3, l4, l5] (.int v0 :: st) = if v0 = 0 then ab_res scr 6 d M 80 [l0, l1, l2, l3, l4, l5] (st) else ab_res scr 6 d M 74 [l0, l1, l2, l3, l4, l5] (st) := ab_o_br2 (off := 9) (ab_dc hc6 dX1_play_71) (by decide) rfl rfl
theorem q6_74 {x : Int32} : ab_res scr 6 d M 74 [l0, l1, l2, some (.int x), l4, l5] (st) = ab_res scr 6 d M 75 [l0, l1, l2, some (.int x), l4, l5] (.int x :: st) := ab_o_iload_n (ab_dc hc6 dX1_play_74) rfl
theorem q6_75 : ab_res scr 6 d M 75 [l0, l1, l2, l3, l4, l5] (st) = ab_res scr 6 d M 76 [l0, l1, l2, l3, l4, l5] (.int 1 :: st) := (ab_o_iconst (ab_dc hc6 dX1_play_75)).trans (by rw [ki_iconst_1])
theorem q6_76 {v0 : Int32} {v1 : Int32} : ab_res scr 6 d M 76 [l0, l1, l2, l3, l4, l5] (.int v0 :: .int v1 :: st) = ab_res scr 6 d M 77 [l0, l1, l2, l3, l4, l5] (.int (v1 + v0) :: st) := ab_xg (ab_dc hc6 dX1_play_76) rfl rfl
theorem q6_77 : ab_res scr 6 d M 77 [l0, l1, l2, l3, l4, l5] (st) = ab_res scr 6 d M 85 [l0, l1, l2, l3, l4, l5] (st) := ab_o_goto (ab_dc hc6 dX1_play_77) (by decide)
theorem q6_80 {xr : Nat} : ab_res scr 6 d M 80 [some (.ref xr), l1, l2, l3, l4, l5] (st) = ab_res scr 6 d M 81 [some (.ref xr), l1, l2, l3, l4, l5] (.ref xr :: st) := ab_o_aload_n (ab_dc hc6 dX1_play_80) rfl
theorem q6_81 {x : Int32} : ab_res scr 6 d M 81 [l0, l1, l2, some (.int x), l4, l5] (st) = ab_res scr 6 d M 82 [l0, l1, l2, some (.int x), l4, l5] (.int x :: st) := ab_o_iload_n (ab_dc hc6 dX1_play_81) rfl
theorem q6_82 {v0 : Int32} {v1 : Nat} (hb : (ab_rc ab_L0 v1 = some 1) = True) : ab_res scr 6 6 M 82 [l0, l1, l2, l3, l4, l5] ([.int v0, .ref v1]) = (ab_ms scr 11 [.ref v1, .int v0] M).bind fun o => ab_res scr 6 6 o.1 85 [l0, l1, l2, l3, l4, l5] (ab_pr o.2 []) := ab_o_virtual (ab_dc hc6 dX1_play_82) hk6 lk_ca_1_100 hm11 (Nat.le_of_ble_eq_true rfl) rfl rfl rfl (of_eq_true hb) rfl rfl
theorem q6_85 {v0 : Int32} : ab_res scr 6 d M 85 [l0, l1, l2, l3, l4, l5] (.int v0 :: st) = ab_res scr 6 d M 86 [ab_nl l0, some (.int v0), l2, l3, l4, l5] (st) := (ab_o_st1 (k := 1) (ab_dc hc6 dX1_play_85) (Or.inr (Or.inr (Or.inl ⟨1, rfl, rfl, rfl, ⟨_, rfl⟩⟩))) hn6 (by decide)).trans (ab_kl1 [] _ l0 rfl rfl)
theorem q6_86 {x : Int32} : ab_res scr 6 d M 86 [l0, l1, some (.int x), l3, l4, l5] (st) = ab_res scr 6 d M 87 [l0, l1, some (.int x), l3, l4, l5] (.int x :: st) := ab_o_iload_n (ab_dc hc6 dX1_play_86) rfl
theorem q6_87 {v0 : Int32} : ab_res scr 6 d M 87 [l0, l1, l2, l3, l4, l5] (.int v0 :: st) = if v0 = 0 then ab_res scr 6 d M 100 [l0, l1, l2, l3, l4, l5] (st) else ab_res scr 6 d M 90 [l0, l1, l2, l3, l4, l5] (st) := ab_o_br2 (off := 13) (ab_dc hc6 dX1_play_87) (by decide) rfl rfl
theorem q6_90 {xr : Nat} : ab_res scr 6 d M 90 [some (.ref xr), l1, l2, l3, l4, l5] (st) = ab_res scr 6 d M 91 [some (.ref xr), l1, l2, l3, l4, l5] (.ref xr :: st) := ab_o_aload_n (ab_dc hc6 dX1_play_90) rfl
theorem q6_91 {v0 : Nat} : ab_res scr 6 d M 91 [l0, l1, l2, l3, l4, l5] (.ref v0 :: st) = ab_res scr 6 d M 92 [l0, l1, l2, l3, l4, l5] (.ref v0 :: .ref v0 :: st) := ab_xg (ab_dc hc6 dX1_play_91) rfl rfl
theorem q6_92 {v0 : Nat} : ab_res scr 6 d M 92 [l0, l1, l2, l3, l4, l5] (.ref v0 :: st) = (ab_gF ab_L0 M v0 1 6).bind fun v => ab_res scr 6 d M 95 [l0, l1, l2, l3, l4, l5] (v :: st) := ab_o_getfield (ab_dc hc6 dX1_play_92) hk6 lk_fl_1_33
theorem q6_95 : ab_res scr 6 d M 95 [l0, l1, l2, l3, l4, l5] (st) = ab_res scr 6 d M 96 [l0, l1, l2, l3, l4, l5] (.int 1 :: st) := (ab_o_iconst (ab_dc hc6 dX1_play_95)).trans (by rw [ki_iconst_1])
theorem q6_96 {v0 : Int32} {v1 : Int32} : ab_res scr 6 d M 96 [l0, l1, l2, l3, l4, l5] (.int v0 :: .int v1 :: st) = ab_res scr 6 d M 97 [l0, l1, l2, l3, l4, l5] (.int (v1 + v0) :: st) := ab_xg (ab_dc hc6 dX1_play_96) rfl rfl
theorem q6_97 {v0 : Int32} {v1 : Nat} (hp : (ab_pt v1 1 6 v0 = true) = True) : ab_res scr 6 d M 97 [l0, l1, l2, l3, l4, l5] (.int v0 :: .ref v1 :: st) = ab_res scr 6 d (ab_up M v1 6 v0) 100 [l0, l1, l2, l3, l4, l5] (st) := ab_o_putfield (ab_dc hc6 dX1_play_97) hk6 lk_fl_1_33 (of_eq_true hp)
theorem q6_100 {x : Int32} : ab_res scr 6 d M 100 [l0, l1, l2, some (.int x), l4, l5] (st) = ab_res scr 6 d M 103 [l0, l1, ab_nl l2, some (.int (x + 1)), l4, l5] (st) := (ab_o_iinc (k := 3) (ab_dc hc6 dX1_play_100) hn6 (by decide) rfl).trans (by rw [ki_iconst_1]; exact ab_kl1 [l0, l1] _ l2 rfl rfl)
theorem q6_103 : ab_res scr 6 d M 103 [l0, l1, l2, l3, l4, l5] (st) = ab_res scr 6 d M 10 [l0, l1, l2, l3, l4, l5] (st) := ab_o_goto (ab_dc hc6 dX1_play_103) (by decide)
theorem q6_106 : ab_res scr 6 d M 106 [l0, l1, l2, l3, l4, l5] ([]) = some (M, none) := ab_o_return (ab_dc hc6 dX1_play_106) hr6
end Q6
theorem hc7 : ab_code 7 = cX1_clear := rfl
theorem hn7 : ab_nL 7 = 2 := rfl
theorem hk7 : ab_ky 7 = 1 := rfl
theorem hr7 : ab_ret 7 = none := rfl
section Q7
variable {scr : Option (List Int32)} {d : Nat} {M : ab_M} {st : List Value} {l0 l1 : Option Value}
theorem q7_0 {xr : Nat} : ab_res scr 7 d M 0 [some (.ref xr), l1] (st) = ab_res scr 7 d M 1 [some (.ref xr), l1] (.ref xr :: st) := ab_o_aload_n (ab_dc hc7 dX1_clear_0) rfl
theorem q7_1 : ab_res scr 7 d M 1 [l0, l1] (st) = ab_res scr 7 d M 2 [l0, l1] (.int 0 :: st) := (ab_o_iconst (ab_dc hc7 dX1_clear_1)).trans (by rw [ki_iconst_0])
theorem q7_2 {v0 : Int32} {v1 : Nat} (hp : (ab_pt v1 1 3 v0 = true) = True) : ab_res scr 7 d M 2 [l0, l1] (.int v0 :: .ref v1 :: st) = ab_res scr 7 d (ab_up M v1 3 v0) 5 [l0, l1] (st) := ab_o_putfield (ab_dc hc7 dX1_clear_2) hk7 lk_fl_1_23 (of_eq_true hp)
theorem q7_5 {xr : Nat} : ab_res scr 7 d M 5 [some (.ref xr), l1] (st) = ab_res scr 7 d M 6 [some (.ref xr), l1] (.ref xr :: st) := ab_o_aload_n (ab_dc hc7 dX1_clear_5) rfl
theorem q7_6 : ab_res scr 7 d M 6 [l0, l1] (st) = ab_res scr 7 d M 7 [l0, l1] (.int 0 :: st) := (ab_o_iconst (ab_dc hc7 dX1_clear_6)).trans (by rw [ki_iconst_0])
theorem q7_7 {v0 : Int32} {v1 : Nat} (hp : (ab_pt v1 1 4 v0 = true) = True) : ab_res scr 7 d M 7 [l0, l1] (.int v0 :: .ref v1 :: st) = ab_res scr 7 d (ab_up M v1 4 v0) 10 [l0, l1] (st) := ab_o_putfield (ab_dc hc7 dX1_clear_7) hk7 lk_fl_1_27 (of_eq_true hp)
theorem q7_10 {xr : Nat} : ab_res scr 7 d M 10 [some (.ref xr), l1] (st) = ab_res scr 7 d M 11 [some (.ref xr), l1] (.ref xr :: st) := ab_o_aload_n (ab_dc hc7 dX1_clear_10) rfl
theorem q7_11 : ab_res scr 7 d M 11 [l0, l1] (st) = ab_res scr 7 d M 12 [l0, l1] (.int 0 :: st) := (ab_o_iconst (ab_dc hc7 dX1_clear_11)).trans (by rw [ki_iconst_0])
theorem q7_12 {v0 : Int32} {v1 : Nat} (hp : (ab_pt v1 1 5 v0 = true) = True) : ab_res scr 7 d M 12 [l0, l1] (.int v0 :: .ref v1 :: st) = ab_res scr 7 d (ab_up M v1 5 v0) 15 [l0, l1] (st) := ab_o_putfield (ab_dc hc7 dX1_clear_12) hk7 lk_fl_1_30 (of_eq_true hp)
theorem q7_15 {xr : Nat} : ab_res scr 7 d M 15 [some (.ref xr), l1] (st) = ab_res scr 7 d M 16 [some (.ref xr), l1] (.ref xr :: st) := ab_o_aload_n (ab_dc hc7 dX1_clear_15) rfl
theorem q7_16 : ab_res scr 7 d M 16 [l0, l1] (st) = ab_res scr 7 d M 17 [l0, l1] (.int 0 :: st) := (ab_o_iconst (ab_dc hc7 dX1_clear_16)).trans (by rw [ki_iconst_0])
theorem q7_17 {v0 : Int32} {v1 : Nat} (hp : (ab_pt v1 1 6 v0 = true) = True) : ab_res scr 7 d M 17 [l0, l1] (.int v0 :: .ref v1 :: st) = ab_res scr 7 d (ab_up M v1 6 v0) 20 [l0, l1] (st) := ab_o_putfield (ab_dc hc7 dX1_clear_17) hk7 lk_fl_1_33 (of_eq_true hp)
theorem q7_20 {xr : Nat} : ab_res scr 7 d M 20 [some (.ref xr), l1] (st) = ab_res scr 7 d M 21 [some (.ref xr), l1] (.ref xr :: st) := ab_o_aload_n (ab_dc hc7 dX1_clear_20) rfl
theorem q7_21 : ab_res scr 7 d M 21 [l0, l1] (st) = ab_res scr 7 d M 22 [l0, l1] (.int 0 :: st) := (ab_o_iconst (ab_dc hc7 dX1_clear_21)).trans (by rw [ki_iconst_0])
theorem q7_22 {v0 : Int32} {v1 : Nat} (hp : (ab_pt v1 1 12 v0 = true) = True) : ab_res scr 7 d M 22 [l0, l1] (.int v0 :: .ref v1 :: st) = ab_res scr 7 d (ab_up M v1 12 v0) 25 [l0, l1] (st) := ab_o_putfield (ab_dc hc7 dX1_clear_22) hk7 lk_fl_1_52 (of_eq_true hp)
theorem q7_25 {xr : Nat} : ab_res scr 7 d M 25 [some (.ref xr), l1] (st) = ab_res scr 7 d M 26 [some (.ref xr), l1] (.ref xr :: st) := ab_o_aload_n (ab_dc hc7 dX1_clear_25) rfl
theorem q7_26 : ab_res scr 7 d M 26 [l0, l1] (st) = ab_res scr 7 d M 27 [l0, l1] (.int 0 :: st) := (ab_o_iconst (ab_dc hc7 dX1_clear_26)).trans (by rw [ki_iconst_0])
theorem q7_27 {v0 : Int32} {v1 : Nat} (hp : (ab_pt v1 1 13 v0 = true) = True) : ab_res scr 7 d M 27 [l0, l1] (.int v0 :: .ref v1 :: st) = ab_res scr 7 d (ab_up M v1 13 v0) 30 [l0, l1] (st) := ab_o_putfield (ab_dc hc7 dX1_clear_27) hk7 lk_fl_1_55 (of_eq_true hp)
theorem q7_30 : ab_res scr 7 d M 30 [l0, l1] (st) = ab_res scr 7 d M 31 [l0, l1] (.int 0 :: st) := (ab_o_iconst (ab_dc hc7 dX1_clear_30)).trans (by rw [ki_iconst_0])
theorem q7_31 {v0 : Int32} : ab_res scr 7 d M 31 [l0, l1] (.int v0 :: st) = ab_res scr 7 d M 32 [ab_nl l0, some (.int v0)] (st) := (ab_o_st1 (k := 1) (ab_dc hc7 dX1_clear_31) (Or.inr (Or.inr (Or.inl ⟨1, rfl, rfl, rfl, ⟨_, rfl⟩⟩))) hn7 (by decide)).trans (ab_kl1 [] _ l0 rfl rfl)
theorem q7_32 {x : Int32} : ab_res scr 7 d M 32 [l0, some (.int x)] (st) = ab_res scr 7 d M 33 [l0, some (.int x)] (.int x :: st) := ab_o_iload_n (ab_dc hc7 dX1_clear_32) rfl
theorem q7_33 {xr : Nat} : ab_res scr 7 d M 33 [some (.ref xr), l1] (st) = ab_res scr 7 d M 34 [some (.ref xr), l1] (.ref xr :: st) := ab_o_aload_n (ab_dc hc7 dX1_clear_33) rfl
theorem q7_34 {v0 : Nat} : ab_res scr 7 d M 34 [l0, l1] (.ref v0 :: st) = (ab_gF ab_L0 M v0 1 0).bind fun v => ab_res scr 7 d M 37 [l0, l1] (v :: st) := ab_o_getfield (ab_dc hc7 dX1_clear_34) hk7 lk_fl_1_58
theorem q7_37 {v0 : Nat} : ab_res scr 7 d M 37 [l0, l1] (.ref v0 :: st) = (ab_gF ab_L0 M v0 4 3).bind fun v => ab_res scr 7 d M 40 [l0, l1] (v :: st) := ab_o_getfield (ab_dc hc7 dX1_clear_37) hk7 lk_fl_1_64
theorem q7_40 {v0 : Int32} {v1 : Int32} : ab_res scr 7 d M 40 [l0, l1] (.int v0 :: .int v1 :: st) = if v0 ≤ v1 then ab_res scr 7 d M 58 [l0, l1] (st) else ab_res scr 7 d M 43 [l0, l1] (st) := ab_o_br2 (off := 18) (ab_dc hc7 dX1_clear_40) (by decide) rfl rfl
theorem q7_43 {xr : Nat} : ab_res scr 7 d M 43 [some (.ref xr), l1] (st) = ab_res scr 7 d M 44 [some (.ref xr), l1] (.ref xr :: st) := ab_o_aload_n (ab_dc hc7 dX1_clear_43) rfl
theorem q7_44 {v0 : Nat} : ab_res scr 7 d M 44 [l0, l1] (.ref v0 :: st) = (ab_gF ab_L0 M v0 1 1).bind fun v => ab_res scr 7 d M 47 [l0, l1] (v :: st) := ab_o_getfield (ab_dc hc7 dX1_clear_44) hk7 lk_fl_1_11
theorem q7_47 {x : Int32} : ab_res scr 7 d M 47 [l0, some (.int x)] (st) = ab_res scr 7 d M 48 [l0, some (.int x)] (.int x :: st) := ab_o_iload_n (ab_dc hc7 dX1_clear_47) rfl
theorem q7_48 {v0 : Int32} {v1 : Nat} : ab_res scr 7 d M 48 [l0, l1] (.int v0 :: .ref v1 :: st) = (ab_qe v1 v0).bind fun v => ab_res scr 7 d M 49 [l0, l1] (v :: st) := ab_o_aaload (ab_dc hc7 dX1_clear_48)
theorem q7_49 {v0 : Nat} (hb : (ab_rc ab_L0 v0 = some 7) = True) : ab_res scr 7 2 M 49 [l0, l1] ([.ref v0]) = (ab_ms scr 54 [.ref v0] M).bind fun o => ab_res scr 7 2 o.1 52 [l0, l1] (ab_pr o.2 []) := ab_o_virtual (ab_dc hc7 dX1_clear_49) hk7 lk_ca_1_104 hm54 (Nat.le_of_ble_eq_true rfl) rfl rfl rfl (of_eq_true hb) rfl rfl
theorem q7_52 {x : Int32} : ab_res scr 7 d M 52 [l0, some (.int x)] (st) = ab_res scr 7 d M 55 [ab_nl l0, some (.int (x + 1))] (st) := (ab_o_iinc (k := 1) (ab_dc hc7 dX1_clear_52) hn7 (by decide) rfl).trans (by rw [ki_iconst_1]; exact ab_kl1 [] _ l0 rfl rfl)
theorem q7_55 : ab_res scr 7 d M 55 [l0, l1] (st) = ab_res scr 7 d M 32 [l0, l1] (st) := ab_o_goto (ab_dc hc7 dX1_clear_55) (by decide)
theorem q7_58 : ab_res scr 7 d M 58 [l0, l1] ([]) = some (M, none) := ab_o_return (ab_dc hc7 dX1_clear_58) hr7
end Q7
theorem hc8 : ab_code 8 = cX1_comeAndGo := rfl
theorem hn8 : ab_nL 8 = 4 := rfl
theorem hk8 : ab_ky 8 = 1 := rfl
theorem hr8 : ab_ret 8 = none := rfl
section Q8
variable {scr : Option (List Int32)} {d : Nat} {M : ab_M} {st : List Value} {l0 l1 l2 l3 : Option Value}
theorem q8_0 : ab_res scr 8 d M 0 [l0, l1, l2, l3] (st) = ab_res scr 8 d M 1 [l0, l1, l2, l3] (.int 0 :: st) := (ab_o_iconst (ab_dc hc8 dX1_comeAndGo_0)).trans (by rw [ki_iconst_0])
theorem q8_1 {v0 : Int32} : ab_res scr 8 d M 1 [l0, l1, l2, l3] (.int v0 :: st) = ab_res scr 8 d M 2 [l0, ab_nl l1, some (.int v0), l3] (st) := (ab_o_st1 (k := 2) (ab_dc hc8 dX1_comeAndGo_1) (Or.inr (Or.inr (Or.inl ⟨2, rfl, rfl, rfl, ⟨_, rfl⟩⟩))) hn8 (by decide)).trans (ab_kl1 [l0] _ l1 rfl rfl)
theorem q8_2 {x : Int32} : ab_res scr 8 d M 2 [l0, l1, some (.int x), l3] (st) = ab_res scr 8 d M 3 [l0, l1, some (.int x), l3] (.int x :: st) := ab_o_iload_n (ab_dc hc8 dX1_comeAndGo_2) rfl
theorem q8_3 {xr : Nat} : ab_res scr 8 d M 3 [some (.ref xr), l1, l2, l3] (st) = ab_res scr 8 d M 4 [some (.ref xr), l1, l2, l3] (.ref xr :: st) := ab_o_aload_n (ab_dc hc8 dX1_comeAndGo_3) rfl
theorem q8_4 {v0 : Nat} : ab_res scr 8 d M 4 [l0, l1, l2, l3] (.ref v0 :: st) = (ab_gF ab_L0 M v0 1 0).bind fun v => ab_res scr 8 d M 7 [l0, l1, l2, l3] (v :: st) := ab_o_getfield (ab_dc hc8 dX1_comeAndGo_4) hk8 lk_fl_1_58
theorem q8_7 {v0 : Nat} : ab_res scr 8 d M 7 [l0, l1, l2, l3] (.ref v0 :: st) = (ab_gF ab_L0 M v0 4 3).bind fun v => ab_res scr 8 d M 10 [l0, l1, l2, l3] (v :: st) := ab_o_getfield (ab_dc hc8 dX1_comeAndGo_7) hk8 lk_fl_1_64
theorem q8_10 {v0 : Int32} {v1 : Int32} : ab_res scr 8 d M 10 [l0, l1, l2, l3] (.int v0 :: .int v1 :: st) = if v0 ≤ v1 then ab_res scr 8 d M 126 [l0, l1, l2, l3] (st) else ab_res scr 8 d M 13 [l0, l1, l2, l3] (st) := ab_o_br2 (off := 116) (ab_dc hc8 dX1_comeAndGo_10) (by decide) rfl rfl
theorem q8_13 : ab_res scr 8 d M 13 [l0, l1, l2, l3] (st) = ab_res scr 8 d M 14 [l0, l1, l2, l3] (.int 1 :: st) := (ab_o_iconst (ab_dc hc8 dX1_comeAndGo_13)).trans (by rw [ki_iconst_1])
theorem q8_14 {x : Int32} : ab_res scr 8 d M 14 [l0, l1, some (.int x), l3] (st) = ab_res scr 8 d M 15 [l0, l1, some (.int x), l3] (.int x :: st) := ab_o_iload_n (ab_dc hc8 dX1_comeAndGo_14) rfl
theorem q8_15 {v0 : Int32} {v1 : Int32} : ab_res scr 8 d M 15 [l0, l1, l2, l3] (.int v0 :: .int v1 :: st) = ab_res scr 8 d M 16 [l0, l1, l2, l3] (.int (v1 <<< (v0 &&& 31)) :: st) := ab_xg (ab_dc hc8 dX1_comeAndGo_15) rfl rfl
theorem q8_16 {v0 : Int32} : ab_res scr 8 d M 16 [l0, l1, l2, l3] (.int v0 :: st) = ab_res scr 8 d M 17 [l0, l1, ab_nl l2, some (.int v0)] (st) := (ab_o_st1 (k := 3) (ab_dc hc8 dX1_comeAndGo_16) (Or.inr (Or.inr (Or.inl ⟨3, rfl, rfl, rfl, ⟨_, rfl⟩⟩))) hn8 (by decide)).trans (ab_kl1 [l0, l1] _ l2 rfl rfl)
theorem q8_17 {xr : Nat} : ab_res scr 8 d M 17 [some (.ref xr), l1, l2, l3] (st) = ab_res scr 8 d M 18 [some (.ref xr), l1, l2, l3] (.ref xr :: st) := ab_o_aload_n (ab_dc hc8 dX1_comeAndGo_17) rfl
theorem q8_18 {v0 : Nat} : ab_res scr 8 d M 18 [l0, l1, l2, l3] (.ref v0 :: st) = (ab_gF ab_L0 M v0 1 0).bind fun v => ab_res scr 8 d M 21 [l0, l1, l2, l3] (v :: st) := ab_o_getfield (ab_dc hc8 dX1_comeAndGo_18) hk8 lk_fl_1_58
theorem q8_21 {v0 : Nat} : ab_res scr 8 d M 21 [l0, l1, l2, l3] (.ref v0 :: st) = (ab_gF ab_L0 M v0 4 0).bind fun v => ab_res scr 8 d M 24 [l0, l1, l2, l3] (v :: st) := ab_o_getfield (ab_dc hc8 dX1_comeAndGo_21) hk8 lk_fl_1_67
theorem q8_24 : ab_res scr 8 d M 24 [l0, l1, l2, l3] (st) = ab_res scr 8 d M 25 [l0, l1, l2, l3] (.int 0 :: st) := (ab_o_iconst (ab_dc hc8 dX1_comeAndGo_24)).trans (by rw [ki_iconst_0])
theorem q8_25 {v0 : Int32} {v1 : Nat} : ab_res scr 8 d M 25 [l0, l1, l2, l3] (.int v0 :: .ref v1 :: st) = (ab_qe v1 v0).bind fun v => ab_res scr 8 d M 26 [l0, l1, l2, l3] (v :: st) := ab_o_aaload (ab_dc hc8 dX1_comeAndGo_25)
theorem q8_26 {x : Int32} : ab_res scr 8 d M 26 [l0, l1, some (.int x), l3] (st) = ab_res scr 8 d M 27 [l0, l1, some (.int x), l3] (.int x :: st) := ab_o_iload_n (ab_dc hc8 dX1_comeAndGo_26) rfl
theorem q8_27 {v0 : Int32} {v1 : Nat} : ab_res scr 8 d M 27 [l0, l1, l2, l3] (.int v0 :: .ref v1 :: st) = (ab_ald scr ab_L0 M v1 .int v0).bind fun v => ab_res scr 8 d M 28 [l0, l1, l2, l3] (.int v :: st) := ab_o_iaload (ab_dc hc8 dX1_comeAndGo_27)
theorem q8_28 {x : Int32} : ab_res scr 8 d M 28 [l0, some (.int x), l2, l3] (st) = ab_res scr 8 d M 29 [l0, some (.int x), l2, l3] (.int x :: st) := ab_o_iload_n (ab_dc hc8 dX1_comeAndGo_28) rfl
theorem q8_29 {v0 : Int32} {v1 : Int32} : ab_res scr 8 d M 29 [l0, l1, l2, l3] (.int v0 :: .int v1 :: st) = if ¬ v1 = v0 then ab_res scr 8 d M 51 [l0, l1, l2, l3] (st) else ab_res scr 8 d M 32 [l0, l1, l2, l3] (st) := ab_o_br2 (off := 22) (ab_dc hc8 dX1_comeAndGo_29) (by decide) rfl rfl
theorem q8_32 {xr : Nat} : ab_res scr 8 d M 32 [some (.ref xr), l1, l2, l3] (st) = ab_res scr 8 d M 33 [some (.ref xr), l1, l2, l3] (.ref xr :: st) := ab_o_aload_n (ab_dc hc8 dX1_comeAndGo_32) rfl
theorem q8_33 {v0 : Nat} : ab_res scr 8 d M 33 [l0, l1, l2, l3] (.ref v0 :: st) = ab_res scr 8 d M 34 [l0, l1, l2, l3] (.ref v0 :: .ref v0 :: st) := ab_xg (ab_dc hc8 dX1_comeAndGo_33) rfl rfl
theorem q8_34 {v0 : Nat} : ab_res scr 8 d M 34 [l0, l1, l2, l3] (.ref v0 :: st) = (ab_gF ab_L0 M v0 1 12).bind fun v => ab_res scr 8 d M 37 [l0, l1, l2, l3] (v :: st) := ab_o_getfield (ab_dc hc8 dX1_comeAndGo_34) hk8 lk_fl_1_52
theorem q8_37 {x : Int32} : ab_res scr 8 d M 37 [l0, l1, l2, some (.int x)] (st) = ab_res scr 8 d M 38 [l0, l1, l2, some (.int x)] (.int x :: st) := ab_o_iload_n (ab_dc hc8 dX1_comeAndGo_37) rfl
theorem q8_38 {v0 : Int32} {v1 : Int32} : ab_res scr 8 d M 38 [l0, l1, l2, l3] (.int v0 :: .int v1 :: st) = ab_res scr 8 d M 39 [l0, l1, l2, l3] (.int (v1 ||| v0) :: st) := ab_xg (ab_dc hc8 dX1_comeAndGo_38) rfl rfl
theorem q8_39 {v0 : Int32} {v1 : Nat} (hp : (ab_pt v1 1 12 v0 = true) = True) : ab_res scr 8 d M 39 [l0, l1, l2, l3] (.int v0 :: .ref v1 :: st) = ab_res scr 8 d (ab_up M v1 12 v0) 42 [l0, l1, l2, l3] (st) := ab_o_putfield (ab_dc hc8 dX1_comeAndGo_39) hk8 lk_fl_1_52 (of_eq_true hp)
theorem q8_42 {xr : Nat} : ab_res scr 8 d M 42 [some (.ref xr), l1, l2, l3] (st) = ab_res scr 8 d M 43 [some (.ref xr), l1, l2, l3] (.ref xr :: st) := ab_o_aload_n (ab_dc hc8 dX1_comeAndGo_42) rfl
theorem q8_43 {x : Int32} : ab_res scr 8 d M 43 [l0, l1, some (.int x), l3] (st) = ab_res scr 8 d M 44 [l0, l1, some (.int x), l3] (.int x :: st) := ab_o_iload_n (ab_dc hc8 dX1_comeAndGo_43) rfl
theorem q8_44 {x : Int32} : ab_res scr 8 d M 44 [l0, some (.int x), l2, l3] (st) = ab_res scr 8 d M 45 [l0, some (.int x), l2, l3] (.int x :: st) := ab_o_iload_n (ab_dc hc8 dX1_comeAndGo_44) rfl
theorem q8_45 {v0 : Int32} {v1 : Int32} {v2 : Nat} (hb : (ab_rc ab_L0 v2 = some 1) = True) : ab_res scr 8 3 M 45 [l0, l1, l2, l3] ([.int v0, .int v1, .ref v2]) = (ab_ms scr 9 [.ref v2, .int v1, .int v0] M).bind fun o => ab_res scr 8 3 o.1 48 [l0, l1, l2, l3] (ab_pr o.2 []) := ab_o_virtual (ab_dc hc8 dX1_comeAndGo_45) hk8 lk_ca_1_105 hm9 (Nat.le_of_ble_eq_true rfl) rfl rfl rfl (of_eq_true hb) rfl rfl
theorem q8_48 : ab_res scr 8 d M 48 [l0, l1, l2, l3] (st) = ab_res scr 8 d M 120 [l0, l1, l2, l3] (st) := ab_o_goto (ab_dc hc8 dX1_comeAndGo_48) (by decide)
theorem q8_51 {xr : Nat} : ab_res scr 8 d M 51 [some (.ref xr), l1, l2, l3] (st) = ab_res scr 8 d M 52 [some (.ref xr), l1, l2, l3] (.ref xr :: st) := ab_o_aload_n (ab_dc hc8 dX1_comeAndGo_51) rfl
theorem q8_52 {v0 : Nat} : ab_res scr 8 d M 52 [l0, l1, l2, l3] (.ref v0 :: st) = (ab_gF ab_L0 M v0 1 0).bind fun v => ab_res scr 8 d M 55 [l0, l1, l2, l3] (v :: st) := ab_o_getfield (ab_dc hc8 dX1_comeAndGo_52) hk8 lk_fl_1_58
theorem q8_55 {v0 : Nat} : ab_res scr 8 d M 55 [l0, l1, l2, l3] (.ref v0 :: st) = (ab_gF ab_L0 M v0 4 0).bind fun v => ab_res scr 8 d M 58 [l0, l1, l2, l3] (v :: st) := ab_o_getfield (ab_dc hc8 dX1_comeAndGo_55) hk8 lk_fl_1_67
theorem q8_58 : ab_res scr 8 d M 58 [l0, l1, l2, l3] (st) = ab_res scr 8 d M 59 [l0, l1, l2, l3] (.int 1 :: st) := (ab_o_iconst (ab_dc hc8 dX1_comeAndGo_58)).trans (by rw [ki_iconst_1])
theorem q8_59 {v0 : Int32} {v1 : Nat} : ab_res scr 8 d M 59 [l0, l1, l2, l3] (.int v0 :: .ref v1 :: st) = (ab_qe v1 v0).bind fun v => ab_res scr 8 d M 60 [l0, l1, l2, l3] (v :: st) := ab_o_aaload (ab_dc hc8 dX1_comeAndGo_59)
theorem q8_60 {x : Int32} : ab_res scr 8 d M 60 [l0, l1, some (.int x), l3] (st) = ab_res scr 8 d M 61 [l0, l1, some (.int x), l3] (.int x :: st) := ab_o_iload_n (ab_dc hc8 dX1_comeAndGo_60) rfl
theorem q8_61 {v0 : Int32} {v1 : Nat} : ab_res scr 8 d M 61 [l0, l1, l2, l3] (.int v0 :: .ref v1 :: st) = (ab_ald scr ab_L0 M v1 .int v0).bind fun v => ab_res scr 8 d M 62 [l0, l1, l2, l3] (.int v :: st) := ab_o_iaload (ab_dc hc8 dX1_comeAndGo_61)
theorem q8_62 {x : Int32} : ab_res scr 8 d M 62 [l0, some (.int x), l2, l3] (st) = ab_res scr 8 d M 63 [l0, some (.int x), l2, l3] (.int x :: st) := ab_o_iload_n (ab_dc hc8 dX1_comeAndGo_62) rfl
theorem q8_63 {v0 : Int32} {v1 : Int32} : ab_res scr 8 d M 63 [l0, l1, l2, l3] (.int v0 :: .int v1 :: st) = if ¬ v1 = v0 then ab_res scr 8 d M 93 [l0, l1, l2, l3] (st) else ab_res scr 8 d M 66 [l0, l1, l2, l3] (st) := ab_o_br2 (off := 30) (ab_dc hc8 dX1_comeAndGo_63) (by decide) rfl rfl
theorem q8_66 {xr : Nat} : ab_res scr 8 d M 66 [some (.ref xr), l1, l2, l3] (st) = ab_res scr 8 d M 67 [some (.ref xr), l1, l2, l3] (.ref xr :: st) := ab_o_aload_n (ab_dc hc8 dX1_comeAndGo_66) rfl
theorem q8_67 {v0 : Nat} : ab_res scr 8 d M 67 [l0, l1, l2, l3] (.ref v0 :: st) = ab_res scr 8 d M 68 [l0, l1, l2, l3] (.ref v0 :: .ref v0 :: st) := ab_xg (ab_dc hc8 dX1_comeAndGo_67) rfl rfl
theorem q8_68 {v0 : Nat} : ab_res scr 8 d M 68 [l0, l1, l2, l3] (.ref v0 :: st) = (ab_gF ab_L0 M v0 1 12).bind fun v => ab_res scr 8 d M 71 [l0, l1, l2, l3] (v :: st) := ab_o_getfield (ab_dc hc8 dX1_comeAndGo_68) hk8 lk_fl_1_52
theorem q8_71 {x : Int32} : ab_res scr 8 d M 71 [l0, l1, l2, some (.int x)] (st) = ab_res scr 8 d M 72 [l0, l1, l2, some (.int x)] (.int x :: st) := ab_o_iload_n (ab_dc hc8 dX1_comeAndGo_71) rfl
theorem q8_72 : ab_res scr 8 d M 72 [l0, l1, l2, l3] (st) = ab_res scr 8 d M 73 [l0, l1, l2, l3] (.int (-1) :: st) := (ab_o_iconst (ab_dc hc8 dX1_comeAndGo_72)).trans (by rw [ki_iconst_m1])
theorem q8_73 {v0 : Int32} {v1 : Int32} : ab_res scr 8 d M 73 [l0, l1, l2, l3] (.int v0 :: .int v1 :: st) = ab_res scr 8 d M 74 [l0, l1, l2, l3] (.int (v1 ^^^ v0) :: st) := ab_xg (ab_dc hc8 dX1_comeAndGo_73) rfl rfl
theorem q8_74 {v0 : Int32} {v1 : Int32} : ab_res scr 8 d M 74 [l0, l1, l2, l3] (.int v0 :: .int v1 :: st) = ab_res scr 8 d M 75 [l0, l1, l2, l3] (.int (v1 &&& v0) :: st) := ab_xg (ab_dc hc8 dX1_comeAndGo_74) rfl rfl
theorem q8_75 {v0 : Int32} {v1 : Nat} (hp : (ab_pt v1 1 12 v0 = true) = True) : ab_res scr 8 d M 75 [l0, l1, l2, l3] (.int v0 :: .ref v1 :: st) = ab_res scr 8 d (ab_up M v1 12 v0) 78 [l0, l1, l2, l3] (st) := ab_o_putfield (ab_dc hc8 dX1_comeAndGo_75) hk8 lk_fl_1_52 (of_eq_true hp)
theorem q8_78 {xr : Nat} : ab_res scr 8 d M 78 [some (.ref xr), l1, l2, l3] (st) = ab_res scr 8 d M 79 [some (.ref xr), l1, l2, l3] (.ref xr :: st) := ab_o_aload_n (ab_dc hc8 dX1_comeAndGo_78) rfl
theorem q8_79 {v0 : Nat} : ab_res scr 8 d M 79 [l0, l1, l2, l3] (.ref v0 :: st) = ab_res scr 8 d M 80 [l0, l1, l2, l3] (.ref v0 :: .ref v0 :: st) := ab_xg (ab_dc hc8 dX1_comeAndGo_79) rfl rfl
theorem q8_80 {v0 : Nat} : ab_res scr 8 d M 80 [l0, l1, l2, l3] (.ref v0 :: st) = (ab_gF ab_L0 M v0 1 13).bind fun v => ab_res scr 8 d M 83 [l0, l1, l2, l3] (v :: st) := ab_o_getfield (ab_dc hc8 dX1_comeAndGo_80) hk8 lk_fl_1_55
theorem q8_83 {x : Int32} : ab_res scr 8 d M 83 [l0, l1, l2, some (.int x)] (st) = ab_res scr 8 d M 84 [l0, l1, l2, some (.int x)] (.int x :: st) := ab_o_iload_n (ab_dc hc8 dX1_comeAndGo_83) rfl
theorem q8_84 : ab_res scr 8 d M 84 [l0, l1, l2, l3] (st) = ab_res scr 8 d M 85 [l0, l1, l2, l3] (.int (-1) :: st) := (ab_o_iconst (ab_dc hc8 dX1_comeAndGo_84)).trans (by rw [ki_iconst_m1])
theorem q8_85 {v0 : Int32} {v1 : Int32} : ab_res scr 8 d M 85 [l0, l1, l2, l3] (.int v0 :: .int v1 :: st) = ab_res scr 8 d M 86 [l0, l1, l2, l3] (.int (v1 ^^^ v0) :: st) := ab_xg (ab_dc hc8 dX1_comeAndGo_85) rfl rfl
theorem q8_86 {v0 : Int32} {v1 : Int32} : ab_res scr 8 d M 86 [l0, l1, l2, l3] (.int v0 :: .int v1 :: st) = ab_res scr 8 d M 87 [l0, l1, l2, l3] (.int (v1 &&& v0) :: st) := ab_xg (ab_dc hc8 dX1_comeAndGo_86) rfl rfl
theorem q8_87 {v0 : Int32} {v1 : Nat} (hp : (ab_pt v1 1 13 v0 = true) = True) : ab_res scr 8 d M 87 [l0, l1, l2, l3] (.int v0 :: .ref v1 :: st) = ab_res scr 8 d (ab_up M v1 13 v0) 90 [l0, l1, l2, l3] (st) := ab_o_putfield (ab_dc hc8 dX1_comeAndGo_87) hk8 lk_fl_1_55 (of_eq_true hp)
theorem q8_90 : ab_res scr 8 d M 90 [l0, l1, l2, l3] (st) = ab_res scr 8 d M 120 [l0, l1, l2, l3] (st) := ab_o_goto (ab_dc hc8 dX1_comeAndGo_90) (by decide)
theorem q8_93 {xr : Nat} : ab_res scr 8 d M 93 [some (.ref xr), l1, l2, l3] (st) = ab_res scr 8 d M 94 [some (.ref xr), l1, l2, l3] (.ref xr :: st) := ab_o_aload_n (ab_dc hc8 dX1_comeAndGo_93) rfl
theorem q8_94 {x : Int32} : ab_res scr 8 d M 94 [l0, l1, some (.int x), l3] (st) = ab_res scr 8 d M 95 [l0, l1, some (.int x), l3] (.int x :: st) := ab_o_iload_n (ab_dc hc8 dX1_comeAndGo_94) rfl
theorem q8_95 {v0 : Int32} {v1 : Nat} (hb : (ab_rc ab_L0 v1 = some 1) = True) : ab_res scr 8 3 M 95 [l0, l1, l2, l3] ([.int v0, .ref v1]) = (ab_ms scr 10 [.ref v1, .int v0] M).bind fun o => ab_res scr 8 3 o.1 98 [l0, l1, l2, l3] (ab_pr o.2 []) := ab_o_virtual (ab_dc hc8 dX1_comeAndGo_95) hk8 lk_ca_1_108 hm10 (Nat.le_of_ble_eq_true rfl) rfl rfl rfl (of_eq_true hb) rfl rfl
theorem q8_98 {v0 : Int32} : ab_res scr 8 d M 98 [l0, l1, l2, l3] (.int v0 :: st) = if v0 = 0 then ab_res scr 8 d M 120 [l0, l1, l2, l3] (st) else ab_res scr 8 d M 101 [l0, l1, l2, l3] (st) := ab_o_br2 (off := 22) (ab_dc hc8 dX1_comeAndGo_98) (by decide) rfl rfl
theorem q8_101 {xr : Nat} : ab_res scr 8 d M 101 [some (.ref xr), l1, l2, l3] (st) = ab_res scr 8 d M 102 [some (.ref xr), l1, l2, l3] (.ref xr :: st) := ab_o_aload_n (ab_dc hc8 dX1_comeAndGo_101) rfl
theorem q8_102 {v0 : Nat} : ab_res scr 8 d M 102 [l0, l1, l2, l3] (.ref v0 :: st) = (ab_gF ab_L0 M v0 1 1).bind fun v => ab_res scr 8 d M 105 [l0, l1, l2, l3] (v :: st) := ab_o_getfield (ab_dc hc8 dX1_comeAndGo_102) hk8 lk_fl_1_11
theorem q8_105 {x : Int32} : ab_res scr 8 d M 105 [l0, l1, some (.int x), l3] (st) = ab_res scr 8 d M 106 [l0, l1, some (.int x), l3] (.int x :: st) := ab_o_iload_n (ab_dc hc8 dX1_comeAndGo_105) rfl
theorem q8_106 {v0 : Int32} {v1 : Nat} : ab_res scr 8 d M 106 [l0, l1, l2, l3] (.int v0 :: .ref v1 :: st) = (ab_qe v1 v0).bind fun v => ab_res scr 8 d M 107 [l0, l1, l2, l3] (v :: st) := ab_o_aaload (ab_dc hc8 dX1_comeAndGo_106)
theorem q8_107 {v0 : Nat} : ab_res scr 8 d M 107 [l0, l1, l2, l3] (.ref v0 :: st) = (ab_gF ab_L0 M v0 7 6).bind fun v => ab_res scr 8 d M 110 [l0, l1, l2, l3] (v :: st) := ab_o_getfield (ab_dc hc8 dX1_comeAndGo_107) hk8 lk_fl_1_111
theorem q8_110 {x : Int32} : ab_res scr 8 d M 110 [l0, some (.int x), l2, l3] (st) = ab_res scr 8 d M 111 [l0, some (.int x), l2, l3] (.int x :: st) := ab_o_iload_n (ab_dc hc8 dX1_comeAndGo_110) rfl
theorem q8_111 {v0 : Int32} {v1 : Int32} : ab_res scr 8 d M 111 [l0, l1, l2, l3] (.int v0 :: .int v1 :: st) = if ¬ v1 = v0 then ab_res scr 8 d M 120 [l0, l1, l2, l3] (st) else ab_res scr 8 d M 114 [l0, l1, l2, l3] (st) := ab_o_br2 (off := 9) (ab_dc hc8 dX1_comeAndGo_111) (by decide) rfl rfl
theorem q8_114 {xr : Nat} : ab_res scr 8 d M 114 [some (.ref xr), l1, l2, l3] (st) = ab_res scr 8 d M 115 [some (.ref xr), l1, l2, l3] (.ref xr :: st) := ab_o_aload_n (ab_dc hc8 dX1_comeAndGo_114) rfl
theorem q8_115 {x : Int32} : ab_res scr 8 d M 115 [l0, l1, some (.int x), l3] (st) = ab_res scr 8 d M 116 [l0, l1, some (.int x), l3] (.int x :: st) := ab_o_iload_n (ab_dc hc8 dX1_comeAndGo_115) rfl
theorem q8_116 {x : Int32} : ab_res scr 8 d M 116 [l0, some (.int x), l2, l3] (st) = ab_res scr 8 d M 117 [l0, some (.int x), l2, l3] (.int x :: st) := ab_o_iload_n (ab_dc hc8 dX1_comeAndGo_116) rfl
theorem q8_117 {v0 : Int32} {v1 : Int32} {v2 : Nat} (hb : (ab_rc ab_L0 v2 = some 1) = True) : ab_res scr 8 3 M 117 [l0, l1, l2, l3] ([.int v0, .int v1, .ref v2]) = (ab_ms scr 9 [.ref v2, .int v1, .int v0] M).bind fun o => ab_res scr 8 3 o.1 120 [l0, l1, l2, l3] (ab_pr o.2 []) := ab_o_virtual (ab_dc hc8 dX1_comeAndGo_117) hk8 lk_ca_1_105 hm9 (Nat.le_of_ble_eq_true rfl) rfl rfl rfl (of_eq_true hb) rfl rfl
theorem q8_120 {x : Int32} : ab_res scr 8 d M 120 [l0, l1, some (.int x), l3] (st) = ab_res scr 8 d M 123 [l0, ab_nl l1, some (.int (x + 1)), l3] (st) := (ab_o_iinc (k := 2) (ab_dc hc8 dX1_comeAndGo_120) hn8 (by decide) rfl).trans (by rw [ki_iconst_1]; exact ab_kl1 [l0] _ l1 rfl rfl)
theorem q8_123 : ab_res scr 8 d M 123 [l0, l1, l2, l3] (st) = ab_res scr 8 d M 2 [l0, l1, l2, l3] (st) := ab_o_goto (ab_dc hc8 dX1_comeAndGo_123) (by decide)
theorem q8_126 : ab_res scr 8 d M 126 [l0, l1, l2, l3] ([]) = some (M, none) := ab_o_return (ab_dc hc8 dX1_comeAndGo_126) hr8
end Q8
theorem hc9 : ab_code 9 = cX1_turnEmpty := rfl
theorem hn9 : ab_nL 9 = 3 := rfl
theorem hk9 : ab_ky 9 = 1 := rfl
theorem hr9 : ab_ret 9 = none := rfl
section Q9
variable {scr : Option (List Int32)} {d : Nat} {M : ab_M} {st : List Value} {l0 l1 l2 : Option Value}
theorem q9_0 {xr : Nat} : ab_res scr 9 d M 0 [some (.ref xr), l1, l2] (st) = ab_res scr 9 d M 1 [some (.ref xr), l1, l2] (.ref xr :: st) := ab_o_aload_n (ab_dc hc9 dX1_turnEmpty_0) rfl
theorem q9_1 {v0 : Nat} : ab_res scr 9 d M 1 [l0, l1, l2] (.ref v0 :: st) = ab_res scr 9 d M 2 [l0, l1, l2] (.ref v0 :: .ref v0 :: st) := ab_xg (ab_dc hc9 dX1_turnEmpty_1) rfl rfl
theorem q9_2 {v0 : Nat} : ab_res scr 9 d M 2 [l0, l1, l2] (.ref v0 :: st) = (ab_gF ab_L0 M v0 1 13).bind fun v => ab_res scr 9 d M 5 [l0, l1, l2] (v :: st) := ab_o_getfield (ab_dc hc9 dX1_turnEmpty_2) hk9 lk_fl_1_55
theorem q9_5 : ab_res scr 9 d M 5 [l0, l1, l2] (st) = ab_res scr 9 d M 6 [l0, l1, l2] (.int 1 :: st) := (ab_o_iconst (ab_dc hc9 dX1_turnEmpty_5)).trans (by rw [ki_iconst_1])
theorem q9_6 {x : Int32} : ab_res scr 9 d M 6 [l0, some (.int x), l2] (st) = ab_res scr 9 d M 7 [l0, some (.int x), l2] (.int x :: st) := ab_o_iload_n (ab_dc hc9 dX1_turnEmpty_6) rfl
theorem q9_7 {v0 : Int32} {v1 : Int32} : ab_res scr 9 d M 7 [l0, l1, l2] (.int v0 :: .int v1 :: st) = ab_res scr 9 d M 8 [l0, l1, l2] (.int (v1 <<< (v0 &&& 31)) :: st) := ab_xg (ab_dc hc9 dX1_turnEmpty_7) rfl rfl
theorem q9_8 {v0 : Int32} {v1 : Int32} : ab_res scr 9 d M 8 [l0, l1, l2] (.int v0 :: .int v1 :: st) = ab_res scr 9 d M 9 [l0, l1, l2] (.int (v1 ||| v0) :: st) := ab_xg (ab_dc hc9 dX1_turnEmpty_8) rfl rfl
theorem q9_9 {v0 : Int32} {v1 : Nat} (hp : (ab_pt v1 1 13 v0 = true) = True) : ab_res scr 9 d M 9 [l0, l1, l2] (.int v0 :: .ref v1 :: st) = ab_res scr 9 d (ab_up M v1 13 v0) 12 [l0, l1, l2] (st) := ab_o_putfield (ab_dc hc9 dX1_turnEmpty_9) hk9 lk_fl_1_55 (of_eq_true hp)
theorem q9_12 {xr : Nat} : ab_res scr 9 d M 12 [some (.ref xr), l1, l2] (st) = ab_res scr 9 d M 13 [some (.ref xr), l1, l2] (.ref xr :: st) := ab_o_aload_n (ab_dc hc9 dX1_turnEmpty_12) rfl
theorem q9_13 {v0 : Nat} : ab_res scr 9 d M 13 [l0, l1, l2] (.ref v0 :: st) = (ab_gF ab_L0 M v0 1 1).bind fun v => ab_res scr 9 d M 16 [l0, l1, l2] (v :: st) := ab_o_getfield (ab_dc hc9 dX1_turnEmpty_13) hk9 lk_fl_1_11
theorem q9_16 {x : Int32} : ab_res scr 9 d M 16 [l0, some (.int x), l2] (st) = ab_res scr 9 d M 17 [l0, some (.int x), l2] (.int x :: st) := ab_o_iload_n (ab_dc hc9 dX1_turnEmpty_16) rfl
theorem q9_17 {v0 : Int32} {v1 : Nat} : ab_res scr 9 d M 17 [l0, l1, l2] (.int v0 :: .ref v1 :: st) = (ab_qe v1 v0).bind fun v => ab_res scr 9 d M 18 [l0, l1, l2] (v :: st) := ab_o_aaload (ab_dc hc9 dX1_turnEmpty_17)
theorem q9_18 {x : Int32} : ab_res scr 9 d M 18 [l0, l1, some (.int x)] (st) = ab_res scr 9 d M 19 [l0, l1, some (.int x)] (.int x :: st) := ab_o_iload_n (ab_dc hc9 dX1_turnEmpty_18) rfl
theorem q9_19 {v0 : Int32} {v1 : Nat} (hp : (ab_pt v1 7 5 v0 = true) = True) : ab_res scr 9 d M 19 [l0, l1, l2] (.int v0 :: .ref v1 :: st) = ab_res scr 9 d (ab_up M v1 5 v0) 22 [l0, l1, l2] (st) := ab_o_putfield (ab_dc hc9 dX1_turnEmpty_19) hk9 lk_fl_1_114 (of_eq_true hp)
theorem q9_22 : ab_res scr 9 d M 22 [l0, l1, l2] ([]) = some (M, none) := ab_o_return (ab_dc hc9 dX1_turnEmpty_22) hr9
end Q9
theorem hc10 : ab_code 10 = cX1_hasGlass := rfl
theorem hn10 : ab_nL 10 = 2 := rfl
theorem hk10 : ab_ky 10 = 1 := rfl
theorem hr10 : ab_ret 10 = some .boolean := rfl
section Q10
variable {scr : Option (List Int32)} {d : Nat} {M : ab_M} {st : List Value} {l0 l1 : Option Value}
theorem q10_0 {x : Int32} : ab_res scr 10 d M 0 [l0, some (.int x)] (st) = ab_res scr 10 d M 1 [l0, some (.int x)] (.int x :: st) := ab_o_iload_n (ab_dc hc10 dX1_hasGlass_0) rfl
theorem q10_1 {xr : Nat} : ab_res scr 10 d M 1 [some (.ref xr), l1] (st) = ab_res scr 10 d M 2 [some (.ref xr), l1] (.ref xr :: st) := ab_o_aload_n (ab_dc hc10 dX1_hasGlass_1) rfl
theorem q10_2 {v0 : Nat} : ab_res scr 10 d M 2 [l0, l1] (.ref v0 :: st) = (ab_gF ab_L0 M v0 1 12).bind fun v => ab_res scr 10 d M 5 [l0, l1] (v :: st) := ab_o_getfield (ab_dc hc10 dX1_hasGlass_2) hk10 lk_fl_1_52
theorem q10_5 {xr : Nat} : ab_res scr 10 d M 5 [some (.ref xr), l1] (st) = ab_res scr 10 d M 6 [some (.ref xr), l1] (.ref xr :: st) := ab_o_aload_n (ab_dc hc10 dX1_hasGlass_5) rfl
theorem q10_6 {v0 : Nat} : ab_res scr 10 d M 6 [l0, l1] (.ref v0 :: st) = (ab_gF ab_L0 M v0 1 13).bind fun v => ab_res scr 10 d M 9 [l0, l1] (v :: st) := ab_o_getfield (ab_dc hc10 dX1_hasGlass_6) hk10 lk_fl_1_55
theorem q10_9 : ab_res scr 10 d M 9 [l0, l1] (st) = ab_res scr 10 d M 10 [l0, l1] (.int (-1) :: st) := (ab_o_iconst (ab_dc hc10 dX1_hasGlass_9)).trans (by rw [ki_iconst_m1])
theorem q10_10 {v0 : Int32} {v1 : Int32} : ab_res scr 10 d M 10 [l0, l1] (.int v0 :: .int v1 :: st) = ab_res scr 10 d M 11 [l0, l1] (.int (v1 ^^^ v0) :: st) := ab_xg (ab_dc hc10 dX1_hasGlass_10) rfl rfl
theorem q10_11 {v0 : Int32} {v1 : Int32} : ab_res scr 10 d M 11 [l0, l1] (.int v0 :: .int v1 :: st) = ab_res scr 10 d M 12 [l0, l1] (.int (v1 &&& v0) :: st) := ab_xg (ab_dc hc10 dX1_hasGlass_11) rfl rfl
theorem q10_12 {v0 : Int32} {v1 : Int32} : ab_res scr 10 2 M 12 [l0, l1] ([.int v0, .int v1]) = (ab_ms scr 112 [.int v1, .int v0] M).bind fun o => ab_res scr 10 2 o.1 15 [l0, l1] (ab_pr o.2 []) := ab_o_static (ab_dc hc10 dX1_hasGlass_12) hk10 lk_ca_1_117 hm112 (Nat.le_of_ble_eq_true rfl) rfl rfl rfl rfl rfl
theorem q10_15 {v0 : Int32} (hv : (narrow .boolean (.int v0) = .int v0) = True) : ab_res scr 10 d M 15 [l0, l1] ([.int v0]) = some (M, some (.int v0)) := ab_o_ireturn (ab_dc hc10 dX1_hasGlass_15) hr10 (of_eq_true hv)
end Q10
theorem hc11 : ab_code 11 = cX1_nextChange := rfl
theorem hn11 : ab_nL 11 = 4 := rfl
theorem hk11 : ab_ky 11 = 1 := rfl
theorem hr11 : ab_ret 11 = some .int := rfl
section Q11
variable {scr : Option (List Int32)} {d : Nat} {M : ab_M} {st : List Value} {l0 l1 l2 l3 : Option Value}
theorem q11_0 : ab_res scr 11 d M 0 [l0, l1, l2, l3] (st) = ab_res scr 11 d M 3 [l0, l1, l2, l3] (.int 240 :: st) := (ab_o_sipush (ab_dc hc11 dX1_nextChange_0)).trans (by rw [ki_sipush_240])
theorem q11_3 {v0 : Int32} : ab_res scr 11 d M 3 [l0, l1, l2, l3] (.int v0 :: st) = ab_res scr 11 d M 4 [l0, ab_nl l1, some (.int v0), l3] (st) := (ab_o_st1 (k := 2) (ab_dc hc11 dX1_nextChange_3) (Or.inr (Or.inr (Or.inl ⟨2, rfl, rfl, rfl, ⟨_, rfl⟩⟩))) hn11 (by decide)).trans (ab_kl1 [l0] _ l1 rfl rfl)
theorem q11_4 : ab_res scr 11 d M 4 [l0, l1, l2, l3] (st) = ab_res scr 11 d M 5 [l0, l1, l2, l3] (.int 0 :: st) := (ab_o_iconst (ab_dc hc11 dX1_nextChange_4)).trans (by rw [ki_iconst_0])
theorem q11_5 {v0 : Int32} : ab_res scr 11 d M 5 [l0, l1, l2, l3] (.int v0 :: st) = ab_res scr 11 d M 6 [l0, l1, ab_nl l2, some (.int v0)] (st) := (ab_o_st1 (k := 3) (ab_dc hc11 dX1_nextChange_5) (Or.inr (Or.inr (Or.inl ⟨3, rfl, rfl, rfl, ⟨_, rfl⟩⟩))) hn11 (by decide)).trans (ab_kl1 [l0, l1] _ l2 rfl rfl)
theorem q11_6 {x : Int32} : ab_res scr 11 d M 6 [l0, l1, l2, some (.int x)] (st) = ab_res scr 11 d M 7 [l0, l1, l2, some (.int x)] (.int x :: st) := ab_o_iload_n (ab_dc hc11 dX1_nextChange_6) rfl
theorem q11_7 {xr : Nat} : ab_res scr 11 d M 7 [some (.ref xr), l1, l2, l3] (st) = ab_res scr 11 d M 8 [some (.ref xr), l1, l2, l3] (.ref xr :: st) := ab_o_aload_n (ab_dc hc11 dX1_nextChange_7) rfl
theorem q11_8 {v0 : Nat} : ab_res scr 11 d M 8 [l0, l1, l2, l3] (.ref v0 :: st) = (ab_gF ab_L0 M v0 1 0).bind fun v => ab_res scr 11 d M 11 [l0, l1, l2, l3] (v :: st) := ab_o_getfield (ab_dc hc11 dX1_nextChange_8) hk11 lk_fl_1_58
theorem q11_11 {v0 : Nat} : ab_res scr 11 d M 11 [l0, l1, l2, l3] (.ref v0 :: st) = (ab_gF ab_L0 M v0 4 3).bind fun v => ab_res scr 11 d M 14 [l0, l1, l2, l3] (v :: st) := ab_o_getfield (ab_dc hc11 dX1_nextChange_11) hk11 lk_fl_1_64
theorem q11_14 {v0 : Int32} {v1 : Int32} : ab_res scr 11 d M 14 [l0, l1, l2, l3] (.int v0 :: .int v1 :: st) = if v0 ≤ v1 then ab_res scr 11 d M 80 [l0, l1, l2, l3] (st) else ab_res scr 11 d M 17 [l0, l1, l2, l3] (st) := ab_o_br2 (off := 66) (ab_dc hc11 dX1_nextChange_14) (by decide) rfl rfl
theorem q11_17 {x : Int32} : ab_res scr 11 d M 17 [l0, l1, some (.int x), l3] (st) = ab_res scr 11 d M 18 [l0, l1, some (.int x), l3] (.int x :: st) := ab_o_iload_n (ab_dc hc11 dX1_nextChange_17) rfl
theorem q11_18 {xr : Nat} : ab_res scr 11 d M 18 [some (.ref xr), l1, l2, l3] (st) = ab_res scr 11 d M 19 [some (.ref xr), l1, l2, l3] (.ref xr :: st) := ab_o_aload_n (ab_dc hc11 dX1_nextChange_18) rfl
theorem q11_19 {v0 : Nat} : ab_res scr 11 d M 19 [l0, l1, l2, l3] (.ref v0 :: st) = (ab_gF ab_L0 M v0 1 0).bind fun v => ab_res scr 11 d M 22 [l0, l1, l2, l3] (v :: st) := ab_o_getfield (ab_dc hc11 dX1_nextChange_19) hk11 lk_fl_1_58
theorem q11_22 {v0 : Nat} : ab_res scr 11 d M 22 [l0, l1, l2, l3] (.ref v0 :: st) = (ab_gF ab_L0 M v0 4 0).bind fun v => ab_res scr 11 d M 25 [l0, l1, l2, l3] (v :: st) := ab_o_getfield (ab_dc hc11 dX1_nextChange_22) hk11 lk_fl_1_67
theorem q11_25 : ab_res scr 11 d M 25 [l0, l1, l2, l3] (st) = ab_res scr 11 d M 26 [l0, l1, l2, l3] (.int 0 :: st) := (ab_o_iconst (ab_dc hc11 dX1_nextChange_25)).trans (by rw [ki_iconst_0])
theorem q11_26 {v0 : Int32} {v1 : Nat} : ab_res scr 11 d M 26 [l0, l1, l2, l3] (.int v0 :: .ref v1 :: st) = (ab_qe v1 v0).bind fun v => ab_res scr 11 d M 27 [l0, l1, l2, l3] (v :: st) := ab_o_aaload (ab_dc hc11 dX1_nextChange_26)
theorem q11_27 {x : Int32} : ab_res scr 11 d M 27 [l0, l1, l2, some (.int x)] (st) = ab_res scr 11 d M 28 [l0, l1, l2, some (.int x)] (.int x :: st) := ab_o_iload_n (ab_dc hc11 dX1_nextChange_27) rfl
theorem q11_28 {v0 : Int32} {v1 : Nat} : ab_res scr 11 d M 28 [l0, l1, l2, l3] (.int v0 :: .ref v1 :: st) = (ab_ald scr ab_L0 M v1 .int v0).bind fun v => ab_res scr 11 d M 29 [l0, l1, l2, l3] (.int v :: st) := ab_o_iaload (ab_dc hc11 dX1_nextChange_28)
theorem q11_29 {x : Int32} : ab_res scr 11 d M 29 [l0, some (.int x), l2, l3] (st) = ab_res scr 11 d M 30 [l0, some (.int x), l2, l3] (.int x :: st) := ab_o_iload_n (ab_dc hc11 dX1_nextChange_29) rfl
theorem q11_30 {v0 : Int32} {v1 : Int32} {v2 : Int32} : ab_res scr 11 3 M 30 [l0, l1, l2, l3] ([.int v0, .int v1, .int v2]) = (ab_ms scr 12 [.int v2, .int v1, .int v0] M).bind fun o => ab_res scr 11 3 o.1 33 [l0, l1, l2, l3] (ab_pr o.2 []) := ab_o_static (ab_dc hc11 dX1_nextChange_30) hk11 lk_ca_1_121 hm12 (Nat.le_of_ble_eq_true rfl) rfl rfl rfl rfl rfl
theorem q11_33 {v0 : Int32} : ab_res scr 11 d M 33 [l0, l1, l2, l3] (.int v0 :: st) = ab_res scr 11 d M 34 [l0, ab_nl l1, some (.int v0), l3] (st) := (ab_o_st1 (k := 2) (ab_dc hc11 dX1_nextChange_33) (Or.inr (Or.inr (Or.inl ⟨2, rfl, rfl, rfl, ⟨_, rfl⟩⟩))) hn11 (by decide)).trans (ab_kl1 [l0] _ l1 rfl rfl)
theorem q11_34 {x : Int32} : ab_res scr 11 d M 34 [l0, l1, some (.int x), l3] (st) = ab_res scr 11 d M 35 [l0, l1, some (.int x), l3] (.int x :: st) := ab_o_iload_n (ab_dc hc11 dX1_nextChange_34) rfl
theorem q11_35 {xr : Nat} : ab_res scr 11 d M 35 [some (.ref xr), l1, l2, l3] (st) = ab_res scr 11 d M 36 [some (.ref xr), l1, l2, l3] (.ref xr :: st) := ab_o_aload_n (ab_dc hc11 dX1_nextChange_35) rfl
theorem q11_36 {v0 : Nat} : ab_res scr 11 d M 36 [l0, l1, l2, l3] (.ref v0 :: st) = (ab_gF ab_L0 M v0 1 0).bind fun v => ab_res scr 11 d M 39 [l0, l1, l2, l3] (v :: st) := ab_o_getfield (ab_dc hc11 dX1_nextChange_36) hk11 lk_fl_1_58
theorem q11_39 {v0 : Nat} : ab_res scr 11 d M 39 [l0, l1, l2, l3] (.ref v0 :: st) = (ab_gF ab_L0 M v0 4 0).bind fun v => ab_res scr 11 d M 42 [l0, l1, l2, l3] (v :: st) := ab_o_getfield (ab_dc hc11 dX1_nextChange_39) hk11 lk_fl_1_67
theorem q11_42 : ab_res scr 11 d M 42 [l0, l1, l2, l3] (st) = ab_res scr 11 d M 43 [l0, l1, l2, l3] (.int 1 :: st) := (ab_o_iconst (ab_dc hc11 dX1_nextChange_42)).trans (by rw [ki_iconst_1])
theorem q11_43 {v0 : Int32} {v1 : Nat} : ab_res scr 11 d M 43 [l0, l1, l2, l3] (.int v0 :: .ref v1 :: st) = (ab_qe v1 v0).bind fun v => ab_res scr 11 d M 44 [l0, l1, l2, l3] (v :: st) := ab_o_aaload (ab_dc hc11 dX1_nextChange_43)
theorem q11_44 {x : Int32} : ab_res scr 11 d M 44 [l0, l1, l2, some (.int x)] (st) = ab_res scr 11 d M 45 [l0, l1, l2, some (.int x)] (.int x :: st) := ab_o_iload_n (ab_dc hc11 dX1_nextChange_44) rfl
theorem q11_45 {v0 : Int32} {v1 : Nat} : ab_res scr 11 d M 45 [l0, l1, l2, l3] (.int v0 :: .ref v1 :: st) = (ab_ald scr ab_L0 M v1 .int v0).bind fun v => ab_res scr 11 d M 46 [l0, l1, l2, l3] (.int v :: st) := ab_o_iaload (ab_dc hc11 dX1_nextChange_45)
theorem q11_46 {x : Int32} : ab_res scr 11 d M 46 [l0, some (.int x), l2, l3] (st) = ab_res scr 11 d M 47 [l0, some (.int x), l2, l3] (.int x :: st) := ab_o_iload_n (ab_dc hc11 dX1_nextChange_46) rfl
theorem q11_47 {v0 : Int32} {v1 : Int32} {v2 : Int32} : ab_res scr 11 3 M 47 [l0, l1, l2, l3] ([.int v0, .int v1, .int v2]) = (ab_ms scr 12 [.int v2, .int v1, .int v0] M).bind fun o => ab_res scr 11 3 o.1 50 [l0, l1, l2, l3] (ab_pr o.2 []) := ab_o_static (ab_dc hc11 dX1_nextChange_47) hk11 lk_ca_1_121 hm12 (Nat.le_of_ble_eq_true rfl) rfl rfl rfl rfl rfl
theorem q11_50 {v0 : Int32} : ab_res scr 11 d M 50 [l0, l1, l2, l3] (.int v0 :: st) = ab_res scr 11 d M 51 [l0, ab_nl l1, some (.int v0), l3] (st) := (ab_o_st1 (k := 2) (ab_dc hc11 dX1_nextChange_50) (Or.inr (Or.inr (Or.inl ⟨2, rfl, rfl, rfl, ⟨_, rfl⟩⟩))) hn11 (by decide)).trans (ab_kl1 [l0] _ l1 rfl rfl)
theorem q11_51 {xr : Nat} : ab_res scr 11 d M 51 [some (.ref xr), l1, l2, l3] (st) = ab_res scr 11 d M 52 [some (.ref xr), l1, l2, l3] (.ref xr :: st) := ab_o_aload_n (ab_dc hc11 dX1_nextChange_51) rfl
theorem q11_52 {x : Int32} : ab_res scr 11 d M 52 [l0, l1, l2, some (.int x)] (st) = ab_res scr 11 d M 53 [l0, l1, l2, some (.int x)] (.int x :: st) := ab_o_iload_n (ab_dc hc11 dX1_nextChange_52) rfl
theorem q11_53 {v0 : Int32} {v1 : Nat} (hb : (ab_rc ab_L0 v1 = some 1) = True) : ab_res scr 11 3 M 53 [l0, l1, l2, l3] ([.int v0, .ref v1]) = (ab_ms scr 10 [.ref v1, .int v0] M).bind fun o => ab_res scr 11 3 o.1 56 [l0, l1, l2, l3] (ab_pr o.2 []) := ab_o_virtual (ab_dc hc11 dX1_nextChange_53) hk11 lk_ca_1_108 hm10 (Nat.le_of_ble_eq_true rfl) rfl rfl rfl (of_eq_true hb) rfl rfl
theorem q11_56 {v0 : Int32} : ab_res scr 11 d M 56 [l0, l1, l2, l3] (.int v0 :: st) = if v0 = 0 then ab_res scr 11 d M 74 [l0, l1, l2, l3] (st) else ab_res scr 11 d M 59 [l0, l1, l2, l3] (st) := ab_o_br2 (off := 18) (ab_dc hc11 dX1_nextChange_56) (by decide) rfl rfl
theorem q11_59 {x : Int32} : ab_res scr 11 d M 59 [l0, l1, some (.int x), l3] (st) = ab_res scr 11 d M 60 [l0, l1, some (.int x), l3] (.int x :: st) := ab_o_iload_n (ab_dc hc11 dX1_nextChange_59) rfl
theorem q11_60 {xr : Nat} : ab_res scr 11 d M 60 [some (.ref xr), l1, l2, l3] (st) = ab_res scr 11 d M 61 [some (.ref xr), l1, l2, l3] (.ref xr :: st) := ab_o_aload_n (ab_dc hc11 dX1_nextChange_60) rfl
theorem q11_61 {v0 : Nat} : ab_res scr 11 d M 61 [l0, l1, l2, l3] (.ref v0 :: st) = (ab_gF ab_L0 M v0 1 1).bind fun v => ab_res scr 11 d M 64 [l0, l1, l2, l3] (v :: st) := ab_o_getfield (ab_dc hc11 dX1_nextChange_61) hk11 lk_fl_1_11
theorem q11_64 {x : Int32} : ab_res scr 11 d M 64 [l0, l1, l2, some (.int x)] (st) = ab_res scr 11 d M 65 [l0, l1, l2, some (.int x)] (.int x :: st) := ab_o_iload_n (ab_dc hc11 dX1_nextChange_64) rfl
theorem q11_65 {v0 : Int32} {v1 : Nat} : ab_res scr 11 d M 65 [l0, l1, l2, l3] (.int v0 :: .ref v1 :: st) = (ab_qe v1 v0).bind fun v => ab_res scr 11 d M 66 [l0, l1, l2, l3] (v :: st) := ab_o_aaload (ab_dc hc11 dX1_nextChange_65)
theorem q11_66 {v0 : Nat} : ab_res scr 11 d M 66 [l0, l1, l2, l3] (.ref v0 :: st) = (ab_gF ab_L0 M v0 7 6).bind fun v => ab_res scr 11 d M 69 [l0, l1, l2, l3] (v :: st) := ab_o_getfield (ab_dc hc11 dX1_nextChange_66) hk11 lk_fl_1_111
theorem q11_69 {x : Int32} : ab_res scr 11 d M 69 [l0, some (.int x), l2, l3] (st) = ab_res scr 11 d M 70 [l0, some (.int x), l2, l3] (.int x :: st) := ab_o_iload_n (ab_dc hc11 dX1_nextChange_69) rfl
theorem q11_70 {v0 : Int32} {v1 : Int32} {v2 : Int32} : ab_res scr 11 3 M 70 [l0, l1, l2, l3] ([.int v0, .int v1, .int v2]) = (ab_ms scr 12 [.int v2, .int v1, .int v0] M).bind fun o => ab_res scr 11 3 o.1 73 [l0, l1, l2, l3] (ab_pr o.2 []) := ab_o_static (ab_dc hc11 dX1_nextChange_70) hk11 lk_ca_1_121 hm12 (Nat.le_of_ble_eq_true rfl) rfl rfl rfl rfl rfl
theorem q11_73 {v0 : Int32} : ab_res scr 11 d M 73 [l0, l1, l2, l3] (.int v0 :: st) = ab_res scr 11 d M 74 [l0, ab_nl l1, some (.int v0), l3] (st) := (ab_o_st1 (k := 2) (ab_dc hc11 dX1_nextChange_73) (Or.inr (Or.inr (Or.inl ⟨2, rfl, rfl, rfl, ⟨_, rfl⟩⟩))) hn11 (by decide)).trans (ab_kl1 [l0] _ l1 rfl rfl)
theorem q11_74 {x : Int32} : ab_res scr 11 d M 74 [l0, l1, l2, some (.int x)] (st) = ab_res scr 11 d M 77 [l0, l1, ab_nl l2, some (.int (x + 1))] (st) := (ab_o_iinc (k := 3) (ab_dc hc11 dX1_nextChange_74) hn11 (by decide) rfl).trans (by rw [ki_iconst_1]; exact ab_kl1 [l0, l1] _ l2 rfl rfl)
theorem q11_77 : ab_res scr 11 d M 77 [l0, l1, l2, l3] (st) = ab_res scr 11 d M 6 [l0, l1, l2, l3] (st) := ab_o_goto (ab_dc hc11 dX1_nextChange_77) (by decide)
theorem q11_80 {x : Int32} : ab_res scr 11 d M 80 [l0, l1, some (.int x), l3] (st) = ab_res scr 11 d M 81 [l0, l1, some (.int x), l3] (.int x :: st) := ab_o_iload_n (ab_dc hc11 dX1_nextChange_80) rfl
theorem q11_81 {v0 : Int32} : ab_res scr 11 d M 81 [l0, l1, l2, l3] ([.int v0]) = some (M, some (.int v0)) := ab_o_ireturn (ab_dc hc11 dX1_nextChange_81) hr11 rfl
end Q11
theorem hc12 : ab_code 12 = cX1_sooner := rfl
theorem hn12 : ab_nL 12 = 3 := rfl
theorem hk12 : ab_ky 12 = 1 := rfl
theorem hr12 : ab_ret 12 = some .int := rfl
section Q12
variable {scr : Option (List Int32)} {d : Nat} {M : ab_M} {st : List Value} {l0 l1 l2 : Option Value}
theorem q12_0 {x : Int32} : ab_res scr 12 d M 0 [l0, some (.int x), l2] (st) = ab_res scr 12 d M 1 [l0, some (.int x), l2] (.int x :: st) := ab_o_iload_n (ab_dc hc12 dX1_sooner_0) rfl
theorem q12_1 {x : Int32} : ab_res scr 12 d M 1 [l0, l1, some (.int x)] (st) = ab_res scr 12 d M 2 [l0, l1, some (.int x)] (.int x :: st) := ab_o_iload_n (ab_dc hc12 dX1_sooner_1) rfl
theorem q12_2 {v0 : Int32} {v1 : Int32} : ab_res scr 12 d M 2 [l0, l1, l2] (.int v0 :: .int v1 :: st) = if v1 ≤ v0 then ab_res scr 12 d M 14 [l0, l1, l2] (st) else ab_res scr 12 d M 5 [l0, l1, l2] (st) := ab_o_br2 (off := 12) (ab_dc hc12 dX1_sooner_2) (by decide) rfl rfl
theorem q12_5 {x : Int32} : ab_res scr 12 d M 5 [l0, some (.int x), l2] (st) = ab_res scr 12 d M 6 [l0, some (.int x), l2] (.int x :: st) := ab_o_iload_n (ab_dc hc12 dX1_sooner_5) rfl
theorem q12_6 {x : Int32} : ab_res scr 12 d M 6 [some (.int x), l1, l2] (st) = ab_res scr 12 d M 7 [some (.int x), l1, l2] (.int x :: st) := ab_o_iload_n (ab_dc hc12 dX1_sooner_6) rfl
theorem q12_7 {v0 : Int32} {v1 : Int32} : ab_res scr 12 d M 7 [l0, l1, l2] (.int v0 :: .int v1 :: st) = if v0 ≤ v1 then ab_res scr 12 d M 14 [l0, l1, l2] (st) else ab_res scr 12 d M 10 [l0, l1, l2] (st) := ab_o_br2 (off := 7) (ab_dc hc12 dX1_sooner_7) (by decide) rfl rfl
theorem q12_10 {x : Int32} : ab_res scr 12 d M 10 [l0, some (.int x), l2] (st) = ab_res scr 12 d M 11 [l0, some (.int x), l2] (.int x :: st) := ab_o_iload_n (ab_dc hc12 dX1_sooner_10) rfl
theorem q12_11 : ab_res scr 12 d M 11 [l0, l1, l2] (st) = ab_res scr 12 d M 15 [l0, l1, l2] (st) := ab_o_goto (ab_dc hc12 dX1_sooner_11) (by decide)
theorem q12_14 {x : Int32} : ab_res scr 12 d M 14 [some (.int x), l1, l2] (st) = ab_res scr 12 d M 15 [some (.int x), l1, l2] (.int x :: st) := ab_o_iload_n (ab_dc hc12 dX1_sooner_14) rfl
theorem q12_15 {v0 : Int32} : ab_res scr 12 d M 15 [l0, l1, l2] ([.int v0]) = some (M, some (.int v0)) := ab_o_ireturn (ab_dc hc12 dX1_sooner_15) hr12 rfl
end Q12
theorem hc13 : ab_code 13 = cX1_wantsRound := rfl
theorem hn13 : ab_nL 13 = 1 := rfl
theorem hk13 : ab_ky 13 = 1 := rfl
theorem hr13 : ab_ret 13 = some .boolean := rfl
section Q13
variable {scr : Option (List Int32)} {d : Nat} {M : ab_M} {st : List Value} {l0 : Option Value}
theorem q13_0 {xr : Nat} : ab_res scr 13 d M 0 [some (.ref xr)] (st) = ab_res scr 13 d M 1 [some (.ref xr)] (.ref xr :: st) := ab_o_aload_n (ab_dc hc13 dX1_wantsRound_0) rfl
theorem q13_1 {v0 : Nat} : ab_res scr 13 d M 1 [l0] (.ref v0 :: st) = (ab_gF ab_L0 M v0 1 13).bind fun v => ab_res scr 13 d M 4 [l0] (v :: st) := ab_o_getfield (ab_dc hc13 dX1_wantsRound_1) hk13 lk_fl_1_55
theorem q13_4 {v0 : Int32} : ab_res scr 13 d M 4 [l0] (.int v0 :: st) = if v0 = 0 then ab_res scr 13 d M 16 [l0] (st) else ab_res scr 13 d M 7 [l0] (st) := ab_o_br2 (off := 12) (ab_dc hc13 dX1_wantsRound_4) (by decide) rfl rfl
theorem q13_7 {xr : Nat} : ab_res scr 13 d M 7 [some (.ref xr)] (st) = ab_res scr 13 d M 8 [some (.ref xr)] (.ref xr :: st) := ab_o_aload_n (ab_dc hc13 dX1_wantsRound_7) rfl
theorem q13_8 {v0 : Nat} : ab_res scr 13 d M 8 [l0] (.ref v0 :: st) = (ab_gF ab_L0 M v0 1 3).bind fun v => ab_res scr 13 d M 11 [l0] (v :: st) := ab_o_getfield (ab_dc hc13 dX1_wantsRound_8) hk13 lk_fl_1_23
theorem q13_11 : ab_res scr 13 d M 11 [l0] (st) = ab_res scr 13 d M 13 [l0] (.int 40 :: st) := (ab_o_bipush (ab_dc hc13 dX1_wantsRound_11)).trans (by rw [ki_bipush_40])
theorem q13_13 {v0 : Int32} {v1 : Int32} : ab_res scr 13 d M 13 [l0] (.int v0 :: .int v1 :: st) = if v1 < v0 then ab_res scr 13 d M 18 [l0] (st) else ab_res scr 13 d M 16 [l0] (st) := ab_o_br2 (off := 5) (ab_dc hc13 dX1_wantsRound_13) (by decide) rfl rfl
theorem q13_16 : ab_res scr 13 d M 16 [l0] (st) = ab_res scr 13 d M 17 [l0] (.int 0 :: st) := (ab_o_iconst (ab_dc hc13 dX1_wantsRound_16)).trans (by rw [ki_iconst_0])
theorem q13_17 {v0 : Int32} (hv : (narrow .boolean (.int v0) = .int v0) = True) : ab_res scr 13 d M 17 [l0] ([.int v0]) = some (M, some (.int v0)) := ab_o_ireturn (ab_dc hc13 dX1_wantsRound_17) hr13 (of_eq_true hv)
theorem q13_18 {xr : Nat} : ab_res scr 13 d M 18 [some (.ref xr)] (st) = ab_res scr 13 d M 19 [some (.ref xr)] (.ref xr :: st) := ab_o_aload_n (ab_dc hc13 dX1_wantsRound_18) rfl
theorem q13_19 {v0 : Nat} : ab_res scr 13 d M 19 [l0] (.ref v0 :: st) = (ab_gF ab_L0 M v0 1 13).bind fun v => ab_res scr 13 d M 22 [l0] (v :: st) := ab_o_getfield (ab_dc hc13 dX1_wantsRound_19) hk13 lk_fl_1_55
theorem q13_22 {xr : Nat} : ab_res scr 13 d M 22 [some (.ref xr)] (st) = ab_res scr 13 d M 23 [some (.ref xr)] (.ref xr :: st) := ab_o_aload_n (ab_dc hc13 dX1_wantsRound_22) rfl
theorem q13_23 {v0 : Nat} : ab_res scr 13 d M 23 [l0] (.ref v0 :: st) = (ab_gF ab_L0 M v0 1 12).bind fun v => ab_res scr 13 d M 26 [l0] (v :: st) := ab_o_getfield (ab_dc hc13 dX1_wantsRound_23) hk13 lk_fl_1_52
theorem q13_26 {v0 : Int32} {v1 : Int32} : ab_res scr 13 d M 26 [l0] (.int v0 :: .int v1 :: st) = if v1 = v0 then ab_res scr 13 d M 46 [l0] (st) else ab_res scr 13 d M 29 [l0] (st) := ab_o_br2 (off := 20) (ab_dc hc13 dX1_wantsRound_26) (by decide) rfl rfl
theorem q13_29 {xr : Nat} : ab_res scr 13 d M 29 [some (.ref xr)] (st) = ab_res scr 13 d M 30 [some (.ref xr)] (.ref xr :: st) := ab_o_aload_n (ab_dc hc13 dX1_wantsRound_29) rfl
theorem q13_30 {v0 : Nat} : ab_res scr 13 d M 30 [l0] (.ref v0 :: st) = (ab_gF ab_L0 M v0 1 13).bind fun v => ab_res scr 13 d M 33 [l0] (v :: st) := ab_o_getfield (ab_dc hc13 dX1_wantsRound_30) hk13 lk_fl_1_55
theorem q13_33 {v0 : Int32} : ab_res scr 13 2 M 33 [l0] ([.int v0]) = (ab_ms scr 196 [.int v0] M).bind fun o => ab_res scr 13 2 o.1 36 [l0] (ab_pr o.2 []) := ab_o_static (ab_dc hc13 dX1_wantsRound_33) hk13 lk_ca_1_125 hm196 (Nat.le_of_ble_eq_true rfl) rfl rfl rfl rfl rfl
theorem q13_36 {xr : Nat} : ab_res scr 13 d M 36 [some (.ref xr)] (st) = ab_res scr 13 d M 37 [some (.ref xr)] (.ref xr :: st) := ab_o_aload_n (ab_dc hc13 dX1_wantsRound_36) rfl
theorem q13_37 {v0 : Nat} : ab_res scr 13 d M 37 [l0] (.ref v0 :: st) = (ab_gF ab_L0 M v0 1 0).bind fun v => ab_res scr 13 d M 40 [l0] (v :: st) := ab_o_getfield (ab_dc hc13 dX1_wantsRound_37) hk13 lk_fl_1_58
theorem q13_40 {v0 : Nat} : ab_res scr 13 d M 40 [l0] (.ref v0 :: st) = (ab_gF ab_L0 M v0 4 4).bind fun v => ab_res scr 13 d M 43 [l0] (v :: st) := ab_o_getfield (ab_dc hc13 dX1_wantsRound_40) hk13 lk_fl_1_130
theorem q13_43 {v0 : Int32} {v1 : Int32} : ab_res scr 13 d M 43 [l0] (.int v0 :: .int v1 :: st) = if v1 < v0 then ab_res scr 13 d M 50 [l0] (st) else ab_res scr 13 d M 46 [l0] (st) := ab_o_br2 (off := 7) (ab_dc hc13 dX1_wantsRound_43) (by decide) rfl rfl
theorem q13_46 : ab_res scr 13 d M 46 [l0] (st) = ab_res scr 13 d M 47 [l0] (.int 1 :: st) := (ab_o_iconst (ab_dc hc13 dX1_wantsRound_46)).trans (by rw [ki_iconst_1])
theorem q13_47 : ab_res scr 13 d M 47 [l0] (st) = ab_res scr 13 d M 51 [l0] (st) := ab_o_goto (ab_dc hc13 dX1_wantsRound_47) (by decide)
theorem q13_50 : ab_res scr 13 d M 50 [l0] (st) = ab_res scr 13 d M 51 [l0] (.int 0 :: st) := (ab_o_iconst (ab_dc hc13 dX1_wantsRound_50)).trans (by rw [ki_iconst_0])
theorem q13_51 {v0 : Int32} (hv : (narrow .boolean (.int v0) = .int v0) = True) : ab_res scr 13 d M 51 [l0] ([.int v0]) = some (M, some (.int v0)) := ab_o_ireturn (ab_dc hc13 dX1_wantsRound_51) hr13 (of_eq_true hv)
end Q13
theorem hc14 : ab_code 14 = cX1_beginRound := rfl
theorem hn14 : ab_nL 14 = 5 := rfl
theorem hk14 : ab_ky 14 = 1 := rfl
theorem hr14 : ab_ret 14 = some .boolean := rfl
section Q14
variable {scr : Option (List Int32)} {d : Nat} {M : ab_M} {st : List Value} {l0 l1 l2 l3 l4 : Option Value}
theorem q14_0 {xr : Nat} : ab_res scr 14 d M 0 [some (.ref xr), l1, l2, l3, l4] (st) = ab_res scr 14 d M 1 [some (.ref xr), l1, l2, l3, l4] (.ref xr :: st) := ab_o_aload_n (ab_dc hc14 dX1_beginRound_0) rfl
theorem q14_1 {v0 : Nat} : ab_res scr 14 d M 1 [l0, l1, l2, l3, l4] (.ref v0 :: st) = (ab_gF ab_L0 M v0 1 8).bind fun v => ab_res scr 14 d M 4 [l0, l1, l2, l3, l4] (v :: st) := ab_o_getfield (ab_dc hc14 dX1_beginRound_1) hk14 lk_fl_1_39
theorem q14_4 : ab_res scr 14 d M 4 [l0, l1, l2, l3, l4] (st) = ab_res scr 14 d M 6 [l0, l1, l2, l3, l4] (.int 6 :: st) := (ab_o_bipush (ab_dc hc14 dX1_beginRound_4)).trans (by rw [ki_bipush_6])
theorem q14_6 {v0 : Int32} {v1 : Int32} : ab_res scr 14 d M 6 [l0, l1, l2, l3, l4] (.int v0 :: .int v1 :: st) = if ¬ v1 = v0 then ab_res scr 14 d M 16 [l0, l1, l2, l3, l4] (st) else ab_res scr 14 d M 9 [l0, l1, l2, l3, l4] (st) := ab_o_br2 (off := 10) (ab_dc hc14 dX1_beginRound_6) (by decide) rfl rfl
theorem q14_9 {xr : Nat} : ab_res scr 14 d M 9 [some (.ref xr), l1, l2, l3, l4] (st) = ab_res scr 14 d M 10 [some (.ref xr), l1, l2, l3, l4] (.ref xr :: st) := ab_o_aload_n (ab_dc hc14 dX1_beginRound_9) rfl
theorem q14_10 {v0 : Nat} (hb : (ab_rc ab_L0 v0 = some 1) = True) : ab_res scr 14 5 M 10 [l0, l1, l2, l3, l4] ([.ref v0]) = (ab_ms scr 15 [.ref v0] M).bind fun o => ab_res scr 14 5 o.1 13 [l0, l1, l2, l3, l4] (ab_pr o.2 []) := ab_o_virtual (ab_dc hc14 dX1_beginRound_10) hk14 lk_ca_1_133 hm15 (Nat.le_of_ble_eq_true rfl) rfl rfl rfl (of_eq_true hb) rfl rfl
theorem q14_13 : ab_res scr 14 d M 13 [l0, l1, l2, l3, l4] (st) = ab_res scr 14 d M 20 [l0, l1, l2, l3, l4] (st) := ab_o_goto (ab_dc hc14 dX1_beginRound_13) (by decide)
theorem q14_16 {xr : Nat} : ab_res scr 14 d M 16 [some (.ref xr), l1, l2, l3, l4] (st) = ab_res scr 14 d M 17 [some (.ref xr), l1, l2, l3, l4] (.ref xr :: st) := ab_o_aload_n (ab_dc hc14 dX1_beginRound_16) rfl
theorem q14_17 {v0 : Nat} : ab_res scr 14 d M 17 [l0, l1, l2, l3, l4] (.ref v0 :: st) = (ab_gF ab_L0 M v0 1 13).bind fun v => ab_res scr 14 d M 20 [l0, l1, l2, l3, l4] (v :: st) := ab_o_getfield (ab_dc hc14 dX1_beginRound_17) hk14 lk_fl_1_55
theorem q14_20 {v0 : Int32} : ab_res scr 14 d M 20 [l0, l1, l2, l3, l4] (.int v0 :: st) = ab_res scr 14 d M 21 [l0, ab_nl l1, some (.int v0), l3, l4] (st) := (ab_o_st1 (k := 2) (ab_dc hc14 dX1_beginRound_20) (Or.inr (Or.inr (Or.inl ⟨2, rfl, rfl, rfl, ⟨_, rfl⟩⟩))) hn14 (by decide)).trans (ab_kl1 [l0] _ l1 rfl rfl)
theorem q14_21 {xr : Nat} : ab_res scr 14 d M 21 [some (.ref xr), l1, l2, l3, l4] (st) = ab_res scr 14 d M 22 [some (.ref xr), l1, l2, l3, l4] (.ref xr :: st) := ab_o_aload_n (ab_dc hc14 dX1_beginRound_21) rfl
theorem q14_22 {x : Int32} : ab_res scr 14 d M 22 [l0, l1, some (.int x), l3, l4] (st) = ab_res scr 14 d M 23 [l0, l1, some (.int x), l3, l4] (.int x :: st) := ab_o_iload_n (ab_dc hc14 dX1_beginRound_22) rfl
theorem q14_23 {v0 : Int32} {v1 : Nat} (hb : (ab_rc ab_L0 v1 = some 1) = True) : ab_res scr 14 5 M 23 [l0, l1, l2, l3, l4] ([.int v0, .ref v1]) = (ab_ms scr 16 [.ref v1, .int v0] M).bind fun o => ab_res scr 14 5 o.1 26 [l0, l1, l2, l3, l4] (ab_pr o.2 []) := ab_o_virtual (ab_dc hc14 dX1_beginRound_23) hk14 lk_ca_1_136 hm16 (Nat.le_of_ble_eq_true rfl) rfl rfl rfl (of_eq_true hb) rfl rfl
theorem q14_26 {v0 : Int32} : ab_res scr 14 d M 26 [l0, l1, l2, l3, l4] (.int v0 :: st) = ab_res scr 14 d M 27 [l0, l1, ab_nl l2, some (.int v0), l4] (st) := (ab_o_st1 (k := 3) (ab_dc hc14 dX1_beginRound_26) (Or.inr (Or.inr (Or.inl ⟨3, rfl, rfl, rfl, ⟨_, rfl⟩⟩))) hn14 (by decide)).trans (ab_kl1 [l0, l1] _ l2 rfl rfl)
theorem q14_27 {xr : Nat} : ab_res scr 14 d M 27 [some (.ref xr), l1, l2, l3, l4] (st) = ab_res scr 14 d M 28 [some (.ref xr), l1, l2, l3, l4] (.ref xr :: st) := ab_o_aload_n (ab_dc hc14 dX1_beginRound_27) rfl
theorem q14_28 {v0 : Nat} : ab_res scr 14 d M 28 [l0, l1, l2, l3, l4] (.ref v0 :: st) = (ab_gF ab_L0 M v0 1 8).bind fun v => ab_res scr 14 d M 31 [l0, l1, l2, l3, l4] (v :: st) := ab_o_getfield (ab_dc hc14 dX1_beginRound_28) hk14 lk_fl_1_39
theorem q14_31 : ab_res scr 14 d M 31 [l0, l1, l2, l3, l4] (st) = ab_res scr 14 d M 33 [l0, l1, l2, l3, l4] (.int 6 :: st) := (ab_o_bipush (ab_dc hc14 dX1_beginRound_31)).trans (by rw [ki_bipush_6])
theorem q14_33 {v0 : Int32} {v1 : Int32} : ab_res scr 14 d M 33 [l0, l1, l2, l3, l4] (.int v0 :: .int v1 :: st) = if ¬ v1 = v0 then ab_res scr 14 d M 41 [l0, l1, l2, l3, l4] (st) else ab_res scr 14 d M 36 [l0, l1, l2, l3, l4] (st) := ab_o_br2 (off := 8) (ab_dc hc14 dX1_beginRound_33) (by decide) rfl rfl
theorem q14_36 : ab_res scr 14 d M 36 [l0, l1, l2, l3, l4] (st) = ab_res scr 14 d M 38 [l0, l1, l2, l3, l4] (.int (-4) :: st) := (ab_o_bipush (ab_dc hc14 dX1_beginRound_36)).trans (by rw [ki_bipush_m4])
theorem q14_38 : ab_res scr 14 d M 38 [l0, l1, l2, l3, l4] (st) = ab_res scr 14 d M 46 [l0, l1, l2, l3, l4] (st) := ab_o_goto (ab_dc hc14 dX1_beginRound_38) (by decide)
theorem q14_41 {xr : Nat} : ab_res scr 14 d M 41 [some (.ref xr), l1, l2, l3, l4] (st) = ab_res scr 14 d M 42 [some (.ref xr), l1, l2, l3, l4] (.ref xr :: st) := ab_o_aload_n (ab_dc hc14 dX1_beginRound_41) rfl
theorem q14_42 {x : Int32} : ab_res scr 14 d M 42 [l0, l1, l2, some (.int x), l4] (st) = ab_res scr 14 d M 43 [l0, l1, l2, some (.int x), l4] (.int x :: st) := ab_o_iload_n (ab_dc hc14 dX1_beginRound_42) rfl
theorem q14_43 {v0 : Int32} {v1 : Nat} (hb : (ab_rc ab_L0 v1 = some 1) = True) : ab_res scr 14 5 M 43 [l0, l1, l2, l3, l4] ([.int v0, .ref v1]) = (ab_ms scr 22 [.ref v1, .int v0] M).bind fun o => ab_res scr 14 5 o.1 46 [l0, l1, l2, l3, l4] (ab_pr o.2 []) := ab_o_virtual (ab_dc hc14 dX1_beginRound_43) hk14 lk_ca_1_139 hm22 (Nat.le_of_ble_eq_true rfl) rfl rfl rfl (of_eq_true hb) rfl rfl
theorem q14_46 {v0 : Int32} : ab_res scr 14 d M 46 [l0, l1, l2, l3, l4] (.int v0 :: st) = ab_res scr 14 d M 48 [l0, l1, l2, ab_nl l3, some (.int v0)] (st) := (ab_o_st1 (k := 4) (ab_dc hc14 dX1_beginRound_46) (Or.inl ⟨rfl, rfl, ⟨_, rfl⟩⟩) hn14 (by decide)).trans (ab_kl1 [l0, l1, l2] _ l3 rfl rfl)
theorem q14_48 {x : Int32} : ab_res scr 14 d M 48 [l0, l1, some (.int x), l3, l4] (st) = ab_res scr 14 d M 49 [l0, l1, some (.int x), l3, l4] (.int x :: st) := ab_o_iload_n (ab_dc hc14 dX1_beginRound_48) rfl
theorem q14_49 {v0 : Int32} : ab_res scr 14 d M 49 [l0, l1, l2, l3, l4] (.int v0 :: st) = if v0 = 0 then ab_res scr 14 d M 68 [l0, l1, l2, l3, l4] (st) else ab_res scr 14 d M 52 [l0, l1, l2, l3, l4] (st) := ab_o_br2 (off := 19) (ab_dc hc14 dX1_beginRound_49) (by decide) rfl rfl
theorem q14_52 {x : Int32} : ab_res scr 14 d M 52 [l0, l1, l2, l3, some (.int x)] (st) = ab_res scr 14 d M 54 [l0, l1, l2, l3, some (.int x)] (.int x :: st) := ab_o_iload (ab_dc hc14 dX1_beginRound_52) rfl
theorem q14_54 : ab_res scr 14 d M 54 [l0, l1, l2, l3, l4] (st) = ab_res scr 14 d M 56 [l0, l1, l2, l3, l4] (.int (-4) :: st) := (ab_o_bipush (ab_dc hc14 dX1_beginRound_54)).trans (by rw [ki_bipush_m4])
theorem q14_56 {v0 : Int32} {v1 : Int32} : ab_res scr 14 d M 56 [l0, l1, l2, l3, l4] (.int v0 :: .int v1 :: st) = if ¬ v1 = v0 then ab_res scr 14 d M 70 [l0, l1, l2, l3, l4] (st) else ab_res scr 14 d M 59 [l0, l1, l2, l3, l4] (st) := ab_o_br2 (off := 14) (ab_dc hc14 dX1_beginRound_56) (by decide) rfl rfl
theorem q14_59 {xr : Nat} : ab_res scr 14 d M 59 [some (.ref xr), l1, l2, l3, l4] (st) = ab_res scr 14 d M 60 [some (.ref xr), l1, l2, l3, l4] (.ref xr :: st) := ab_o_aload_n (ab_dc hc14 dX1_beginRound_59) rfl
theorem q14_60 {v0 : Nat} : ab_res scr 14 d M 60 [l0, l1, l2, l3, l4] (.ref v0 :: st) = (ab_gF ab_L0 M v0 1 8).bind fun v => ab_res scr 14 d M 63 [l0, l1, l2, l3, l4] (v :: st) := ab_o_getfield (ab_dc hc14 dX1_beginRound_60) hk14 lk_fl_1_39
theorem q14_63 : ab_res scr 14 d M 63 [l0, l1, l2, l3, l4] (st) = ab_res scr 14 d M 65 [l0, l1, l2, l3, l4] (.int 6 :: st) := (ab_o_bipush (ab_dc hc14 dX1_beginRound_63)).trans (by rw [ki_bipush_6])
theorem q14_65 {v0 : Int32} {v1 : Int32} : ab_res scr 14 d M 65 [l0, l1, l2, l3, l4] (.int v0 :: .int v1 :: st) = if v1 = v0 then ab_res scr 14 d M 70 [l0, l1, l2, l3, l4] (st) else ab_res scr 14 d M 68 [l0, l1, l2, l3, l4] (st) := ab_o_br2 (off := 5) (ab_dc hc14 dX1_beginRound_65) (by decide) rfl rfl
theorem q14_68 : ab_res scr 14 d M 68 [l0, l1, l2, l3, l4] (st) = ab_res scr 14 d M 69 [l0, l1, l2, l3, l4] (.int 0 :: st) := (ab_o_iconst (ab_dc hc14 dX1_beginRound_68)).trans (by rw [ki_iconst_0])
theorem q14_69 {v0 : Int32} (hv : (narrow .boolean (.int v0) = .int v0) = True) : ab_res scr 14 d M 69 [l0, l1, l2, l3, l4] ([.int v0]) = some (M, some (.int v0)) := ab_o_ireturn (ab_dc hc14 dX1_beginRound_69) hr14 (of_eq_true hv)
theorem q14_70 {xr : Nat} : ab_res scr 14 d M 70 [some (.ref xr), l1, l2, l3, l4] (st) = ab_res scr 14 d M 71 [some (.ref xr), l1, l2, l3, l4] (.ref xr :: st) := ab_o_aload_n (ab_dc hc14 dX1_beginRound_70) rfl
theorem q14_71 {x : Int32} : ab_res scr 14 d M 71 [l0, some (.int x), l2, l3, l4] (st) = ab_res scr 14 d M 72 [l0, some (.int x), l2, l3, l4] (.int x :: st) := ab_o_iload_n (ab_dc hc14 dX1_beginRound_71) rfl
theorem q14_72 {x : Int32} : ab_res scr 14 d M 72 [l0, l1, l2, l3, some (.int x)] (st) = ab_res scr 14 d M 74 [l0, l1, l2, l3, some (.int x)] (.int x :: st) := ab_o_iload (ab_dc hc14 dX1_beginRound_72) rfl
theorem q14_74 {x : Int32} : ab_res scr 14 d M 74 [l0, l1, l2, some (.int x), l4] (st) = ab_res scr 14 d M 75 [l0, l1, l2, some (.int x), l4] (.int x :: st) := ab_o_iload_n (ab_dc hc14 dX1_beginRound_74) rfl
theorem q14_75 {x : Int32} : ab_res scr 14 d M 75 [l0, l1, some (.int x), l3, l4] (st) = ab_res scr 14 d M 76 [l0, l1, some (.int x), l3, l4] (.int x :: st) := ab_o_iload_n (ab_dc hc14 dX1_beginRound_75) rfl
theorem q14_76 {v0 : Int32} {v1 : Int32} {v2 : Int32} {v3 : Int32} {v4 : Nat} (hb : (ab_rc ab_L0 v4 = some 1) = True) : ab_res scr 14 5 M 76 [l0, l1, l2, l3, l4] ([.int v0, .int v1, .int v2, .int v3, .ref v4]) = (ab_ms scr 17 [.ref v4, .int v3, .int v2, .int v1, .int v0] M).bind fun o => ab_res scr 14 5 o.1 79 [l0, l1, l2, l3, l4] (ab_pr o.2 []) := ab_o_virtual (ab_dc hc14 dX1_beginRound_76) hk14 lk_ca_1_142 hm17 (Nat.le_of_ble_eq_true rfl) rfl rfl rfl (of_eq_true hb) rfl rfl
theorem q14_79 {xr : Nat} : ab_res scr 14 d M 79 [some (.ref xr), l1, l2, l3, l4] (st) = ab_res scr 14 d M 80 [some (.ref xr), l1, l2, l3, l4] (.ref xr :: st) := ab_o_aload_n (ab_dc hc14 dX1_beginRound_79) rfl
theorem q14_80 {x : Int32} : ab_res scr 14 d M 80 [l0, l1, some (.int x), l3, l4] (st) = ab_res scr 14 d M 81 [l0, l1, some (.int x), l3, l4] (.int x :: st) := ab_o_iload_n (ab_dc hc14 dX1_beginRound_80) rfl
theorem q14_81 {x : Int32} : ab_res scr 14 d M 81 [l0, some (.int x), l2, l3, l4] (st) = ab_res scr 14 d M 82 [l0, some (.int x), l2, l3, l4] (.int x :: st) := ab_o_iload_n (ab_dc hc14 dX1_beginRound_81) rfl
theorem q14_82 {v0 : Int32} {v1 : Int32} {v2 : Nat} (hb : (ab_rc ab_L0 v2 = some 1) = True) : ab_res scr 14 5 M 82 [l0, l1, l2, l3, l4] ([.int v0, .int v1, .ref v2]) = (ab_ms scr 18 [.ref v2, .int v1, .int v0] M).bind fun o => ab_res scr 14 5 o.1 85 [l0, l1, l2, l3, l4] (ab_pr o.2 []) := ab_o_virtual (ab_dc hc14 dX1_beginRound_82) hk14 lk_ca_1_146 hm18 (Nat.le_of_ble_eq_true rfl) rfl rfl rfl (of_eq_true hb) rfl rfl
theorem q14_85 {x : Int32} : ab_res scr 14 d M 85 [l0, l1, l2, l3, some (.int x)] (st) = ab_res scr 14 d M 87 [l0, l1, l2, l3, some (.int x)] (.int x :: st) := ab_o_iload (ab_dc hc14 dX1_beginRound_85) rfl
theorem q14_87 : ab_res scr 14 d M 87 [l0, l1, l2, l3, l4] (st) = ab_res scr 14 d M 89 [l0, l1, l2, l3, l4] (.int (-4) :: st) := (ab_o_bipush (ab_dc hc14 dX1_beginRound_87)).trans (by rw [ki_bipush_m4])
theorem q14_89 {v0 : Int32} {v1 : Int32} : ab_res scr 14 d M 89 [l0, l1, l2, l3, l4] (.int v0 :: .int v1 :: st) = if ¬ v1 = v0 then ab_res scr 14 d M 100 [l0, l1, l2, l3, l4] (st) else ab_res scr 14 d M 92 [l0, l1, l2, l3, l4] (st) := ab_o_br2 (off := 11) (ab_dc hc14 dX1_beginRound_89) (by decide) rfl rfl
theorem q14_92 {xr : Nat} : ab_res scr 14 d M 92 [some (.ref xr), l1, l2, l3, l4] (st) = ab_res scr 14 d M 93 [some (.ref xr), l1, l2, l3, l4] (.ref xr :: st) := ab_o_aload_n (ab_dc hc14 dX1_beginRound_92) rfl
theorem q14_93 {x : Int32} : ab_res scr 14 d M 93 [l0, l1, some (.int x), l3, l4] (st) = ab_res scr 14 d M 94 [l0, l1, some (.int x), l3, l4] (.int x :: st) := ab_o_iload_n (ab_dc hc14 dX1_beginRound_93) rfl
theorem q14_94 {v0 : Int32} {v1 : Nat} (hb : (ab_rc ab_L0 v1 = some 1) = True) : ab_res scr 14 5 M 94 [l0, l1, l2, l3, l4] ([.int v0, .ref v1]) = (ab_ms scr 19 [.ref v1, .int v0] M).bind fun o => ab_res scr 14 5 o.1 97 [l0, l1, l2, l3, l4] (ab_pr o.2 []) := ab_o_virtual (ab_dc hc14 dX1_beginRound_94) hk14 lk_ca_1_149 hm19 (Nat.le_of_ble_eq_true rfl) rfl rfl rfl (of_eq_true hb) rfl rfl
theorem q14_97 : ab_res scr 14 d M 97 [l0, l1, l2, l3, l4] (st) = ab_res scr 14 d M 107 [l0, l1, l2, l3, l4] (st) := ab_o_goto (ab_dc hc14 dX1_beginRound_97) (by decide)
theorem q14_100 {xr : Nat} : ab_res scr 14 d M 100 [some (.ref xr), l1, l2, l3, l4] (st) = ab_res scr 14 d M 101 [some (.ref xr), l1, l2, l3, l4] (.ref xr :: st) := ab_o_aload_n (ab_dc hc14 dX1_beginRound_100) rfl
theorem q14_101 {x : Int32} : ab_res scr 14 d M 101 [l0, l1, l2, l3, some (.int x)] (st) = ab_res scr 14 d M 103 [l0, l1, l2, l3, some (.int x)] (.int x :: st) := ab_o_iload (ab_dc hc14 dX1_beginRound_101) rfl
theorem q14_103 {x : Int32} : ab_res scr 14 d M 103 [l0, l1, l2, some (.int x), l4] (st) = ab_res scr 14 d M 104 [l0, l1, l2, some (.int x), l4] (.int x :: st) := ab_o_iload_n (ab_dc hc14 dX1_beginRound_103) rfl
theorem q14_104 {v0 : Int32} {v1 : Int32} {v2 : Nat} (hb : (ab_rc ab_L0 v2 = some 1) = True) : ab_res scr 14 5 M 104 [l0, l1, l2, l3, l4] ([.int v0, .int v1, .ref v2]) = (ab_ms scr 20 [.ref v2, .int v1, .int v0] M).bind fun o => ab_res scr 14 5 o.1 107 [l0, l1, l2, l3, l4] (ab_pr o.2 []) := ab_o_virtual (ab_dc hc14 dX1_beginRound_104) hk14 lk_ca_1_152 hm20 (Nat.le_of_ble_eq_true rfl) rfl rfl rfl (of_eq_true hb) rfl rfl
theorem q14_107 {xr : Nat} : ab_res scr 14 d M 107 [some (.ref xr), l1, l2, l3, l4] (st) = ab_res scr 14 d M 108 [some (.ref xr), l1, l2, l3, l4] (.ref xr :: st) := ab_o_aload_n (ab_dc hc14 dX1_beginRound_107) rfl
theorem q14_108 {xr : Nat} : ab_res scr 14 d M 108 [some (.ref xr), l1, l2, l3, l4] (st) = ab_res scr 14 d M 109 [some (.ref xr), l1, l2, l3, l4] (.ref xr :: st) := ab_o_aload_n (ab_dc hc14 dX1_beginRound_108) rfl
theorem q14_109 {v0 : Nat} : ab_res scr 14 d M 109 [l0, l1, l2, l3, l4] (.ref v0 :: st) = (ab_gF ab_L0 M v0 1 5).bind fun v => ab_res scr 14 d M 112 [l0, l1, l2, l3, l4] (v :: st) := ab_o_getfield (ab_dc hc14 dX1_beginRound_109) hk14 lk_fl_1_30
theorem q14_112 {xr : Nat} : ab_res scr 14 d M 112 [some (.ref xr), l1, l2, l3, l4] (st) = ab_res scr 14 d M 113 [some (.ref xr), l1, l2, l3, l4] (.ref xr :: st) := ab_o_aload_n (ab_dc hc14 dX1_beginRound_112) rfl
theorem q14_113 {v0 : Nat} {v1 : Int32} {v2 : Nat} (hb : (ab_rc ab_L0 v0 = some 1) = True) : ab_res scr 14 5 M 113 [l0, l1, l2, l3, l4] ([.ref v0, .int v1, .ref v2]) = (ab_ms scr 21 [.ref v0] M).bind fun o => ab_res scr 14 5 o.1 116 [l0, l1, l2, l3, l4] (ab_pr o.2 [.int v1, .ref v2]) := ab_o_virtual (ab_dc hc14 dX1_beginRound_113) hk14 lk_ca_1_155 hm21 (Nat.le_of_ble_eq_true rfl) rfl rfl rfl (of_eq_true hb) rfl rfl
theorem q14_116 {v0 : Int32} {v1 : Int32} {v2 : Nat} : ab_res scr 14 d M 116 [l0, l1, l2, l3, l4] ([.int v0, .int v1, .ref v2]) = ab_res scr 14 d M 119 [l0, l1, l2, l3, l4] (.int (if v1 < v0 then v0 else v1) :: [.ref v2]) := ab_o_max (ab_dc hc14 dX1_beginRound_116) hk14 lk_cn_1_158 lk_ma_1_158 rfl
theorem q14_119 {v0 : Int32} {v1 : Nat} (hp : (ab_pt v1 1 5 v0 = true) = True) : ab_res scr 14 d M 119 [l0, l1, l2, l3, l4] (.int v0 :: .ref v1 :: st) = ab_res scr 14 d (ab_up M v1 5 v0) 122 [l0, l1, l2, l3, l4] (st) := ab_o_putfield (ab_dc hc14 dX1_beginRound_119) hk14 lk_fl_1_30 (of_eq_true hp)
theorem q14_122 : ab_res scr 14 d M 122 [l0, l1, l2, l3, l4] (st) = ab_res scr 14 d M 123 [l0, l1, l2, l3, l4] (.int 1 :: st) := (ab_o_iconst (ab_dc hc14 dX1_beginRound_122)).trans (by rw [ki_iconst_1])
theorem q14_123 {v0 : Int32} (hv : (narrow .boolean (.int v0) = .int v0) = True) : ab_res scr 14 d M 123 [l0, l1, l2, l3, l4] ([.int v0]) = some (M, some (.int v0)) := ab_o_ireturn (ab_dc hc14 dX1_beginRound_123) hr14 (of_eq_true hv)
end Q14
theorem hc15 : ab_code 15 = cX1_whoCanPayOwn := rfl
theorem hn15 : ab_nL 15 = 3 := rfl
theorem hk15 : ab_ky 15 = 1 := rfl
theorem hr15 : ab_ret 15 = some .int := rfl
section Q15
variable {scr : Option (List Int32)} {d : Nat} {M : ab_M} {st : List Value} {l0 l1 l2 : Option Value}
theorem q15_0 : ab_res scr 15 d M 0 [l0, l1, l2] (st) = ab_res scr 15 d M 1 [l0, l1, l2] (.int 0 :: st) := (ab_o_iconst (ab_dc hc15 dX1_whoCanPayOwn_0)).trans (by rw [ki_iconst_0])
theorem q15_1 {v0 : Int32} : ab_res scr 15 d M 1 [l0, l1, l2] (.int v0 :: st) = ab_res scr 15 d M 2 [ab_nl l0, some (.int v0), l2] (st) := (ab_o_st1 (k := 1) (ab_dc hc15 dX1_whoCanPayOwn_1) (Or.inr (Or.inr (Or.inl ⟨1, rfl, rfl, rfl, ⟨_, rfl⟩⟩))) hn15 (by decide)).trans (ab_kl1 [] _ l0 rfl rfl)
theorem q15_2 : ab_res scr 15 d M 2 [l0, l1, l2] (st) = ab_res scr 15 d M 3 [l0, l1, l2] (.int 0 :: st) := (ab_o_iconst (ab_dc hc15 dX1_whoCanPayOwn_2)).trans (by rw [ki_iconst_0])
theorem q15_3 {v0 : Int32} : ab_res scr 15 d M 3 [l0, l1, l2] (.int v0 :: st) = ab_res scr 15 d M 4 [l0, ab_nl l1, some (.int v0)] (st) := (ab_o_st1 (k := 2) (ab_dc hc15 dX1_whoCanPayOwn_3) (Or.inr (Or.inr (Or.inl ⟨2, rfl, rfl, rfl, ⟨_, rfl⟩⟩))) hn15 (by decide)).trans (ab_kl1 [l0] _ l1 rfl rfl)
theorem q15_4 {x : Int32} : ab_res scr 15 d M 4 [l0, l1, some (.int x)] (st) = ab_res scr 15 d M 5 [l0, l1, some (.int x)] (.int x :: st) := ab_o_iload_n (ab_dc hc15 dX1_whoCanPayOwn_4) rfl
theorem q15_5 {xr : Nat} : ab_res scr 15 d M 5 [some (.ref xr), l1, l2] (st) = ab_res scr 15 d M 6 [some (.ref xr), l1, l2] (.ref xr :: st) := ab_o_aload_n (ab_dc hc15 dX1_whoCanPayOwn_5) rfl
theorem q15_6 {v0 : Nat} : ab_res scr 15 d M 6 [l0, l1, l2] (.ref v0 :: st) = (ab_gF ab_L0 M v0 1 0).bind fun v => ab_res scr 15 d M 9 [l0, l1, l2] (v :: st) := ab_o_getfield (ab_dc hc15 dX1_whoCanPayOwn_6) hk15 lk_fl_1_58
theorem q15_9 {v0 : Nat} : ab_res scr 15 d M 9 [l0, l1, l2] (.ref v0 :: st) = (ab_gF ab_L0 M v0 4 3).bind fun v => ab_res scr 15 d M 12 [l0, l1, l2] (v :: st) := ab_o_getfield (ab_dc hc15 dX1_whoCanPayOwn_9) hk15 lk_fl_1_64
theorem q15_12 {v0 : Int32} {v1 : Int32} : ab_res scr 15 d M 12 [l0, l1, l2] (.int v0 :: .int v1 :: st) = if v0 ≤ v1 then ab_res scr 15 d M 57 [l0, l1, l2] (st) else ab_res scr 15 d M 15 [l0, l1, l2] (st) := ab_o_br2 (off := 45) (ab_dc hc15 dX1_whoCanPayOwn_12) (by decide) rfl rfl
theorem q15_15 {x : Int32} : ab_res scr 15 d M 15 [l0, l1, some (.int x)] (st) = ab_res scr 15 d M 16 [l0, l1, some (.int x)] (.int x :: st) := ab_o_iload_n (ab_dc hc15 dX1_whoCanPayOwn_15) rfl
theorem q15_16 {xr : Nat} : ab_res scr 15 d M 16 [some (.ref xr), l1, l2] (st) = ab_res scr 15 d M 17 [some (.ref xr), l1, l2] (.ref xr :: st) := ab_o_aload_n (ab_dc hc15 dX1_whoCanPayOwn_16) rfl
theorem q15_17 {v0 : Nat} : ab_res scr 15 d M 17 [l0, l1, l2] (.ref v0 :: st) = (ab_gF ab_L0 M v0 1 13).bind fun v => ab_res scr 15 d M 20 [l0, l1, l2] (v :: st) := ab_o_getfield (ab_dc hc15 dX1_whoCanPayOwn_17) hk15 lk_fl_1_55
theorem q15_20 {v0 : Int32} {v1 : Int32} : ab_res scr 15 2 M 20 [l0, l1, l2] ([.int v0, .int v1]) = (ab_ms scr 112 [.int v1, .int v0] M).bind fun o => ab_res scr 15 2 o.1 23 [l0, l1, l2] (ab_pr o.2 []) := ab_o_static (ab_dc hc15 dX1_whoCanPayOwn_20) hk15 lk_ca_1_117 hm112 (Nat.le_of_ble_eq_true rfl) rfl rfl rfl rfl rfl
theorem q15_23 {v0 : Int32} : ab_res scr 15 d M 23 [l0, l1, l2] (.int v0 :: st) = if v0 = 0 then ab_res scr 15 d M 51 [l0, l1, l2] (st) else ab_res scr 15 d M 26 [l0, l1, l2] (st) := ab_o_br2 (off := 28) (ab_dc hc15 dX1_whoCanPayOwn_23) (by decide) rfl rfl
theorem q15_26 {xr : Nat} : ab_res scr 15 d M 26 [some (.ref xr), l1, l2] (st) = ab_res scr 15 d M 27 [some (.ref xr), l1, l2] (.ref xr :: st) := ab_o_aload_n (ab_dc hc15 dX1_whoCanPayOwn_26) rfl
theorem q15_27 {x : Int32} : ab_res scr 15 d M 27 [l0, l1, some (.int x)] (st) = ab_res scr 15 d M 28 [l0, l1, some (.int x)] (.int x :: st) := ab_o_iload_n (ab_dc hc15 dX1_whoCanPayOwn_27) rfl
theorem q15_28 {v0 : Int32} {v1 : Nat} (hb : (ab_rc ab_L0 v1 = some 1) = True) : ab_res scr 15 2 M 28 [l0, l1, l2] ([.int v0, .ref v1]) = (ab_ms scr 31 [.ref v1, .int v0] M).bind fun o => ab_res scr 15 2 o.1 31 [l0, l1, l2] (ab_pr o.2 []) := ab_o_virtual (ab_dc hc15 dX1_whoCanPayOwn_28) hk15 lk_ca_1_164 hm31 (Nat.le_of_ble_eq_true rfl) rfl rfl rfl (of_eq_true hb) rfl rfl
theorem q15_31 {xr : Nat} : ab_res scr 15 d M 31 [some (.ref xr), l1, l2] (st) = ab_res scr 15 d M 32 [some (.ref xr), l1, l2] (.ref xr :: st) := ab_o_aload_n (ab_dc hc15 dX1_whoCanPayOwn_31) rfl
theorem q15_32 {v0 : Nat} : ab_res scr 15 d M 32 [l0, l1, l2] (.ref v0 :: st) = (ab_gF ab_L0 M v0 1 0).bind fun v => ab_res scr 15 d M 35 [l0, l1, l2] (v :: st) := ab_o_getfield (ab_dc hc15 dX1_whoCanPayOwn_32) hk15 lk_fl_1_58
theorem q15_35 {v0 : Nat} : ab_res scr 15 d M 35 [l0, l1, l2] (.ref v0 :: st) = (ab_gF ab_L0 M v0 4 0).bind fun v => ab_res scr 15 d M 38 [l0, l1, l2] (v :: st) := ab_o_getfield (ab_dc hc15 dX1_whoCanPayOwn_35) hk15 lk_fl_1_67
theorem q15_38 : ab_res scr 15 d M 38 [l0, l1, l2] (st) = ab_res scr 15 d M 39 [l0, l1, l2] (.int 2 :: st) := (ab_o_iconst (ab_dc hc15 dX1_whoCanPayOwn_38)).trans (by rw [ki_iconst_2])
theorem q15_39 {v0 : Int32} {v1 : Nat} : ab_res scr 15 d M 39 [l0, l1, l2] (.int v0 :: .ref v1 :: st) = (ab_qe v1 v0).bind fun v => ab_res scr 15 d M 40 [l0, l1, l2] (v :: st) := ab_o_aaload (ab_dc hc15 dX1_whoCanPayOwn_39)
theorem q15_40 {x : Int32} : ab_res scr 15 d M 40 [l0, l1, some (.int x)] (st) = ab_res scr 15 d M 41 [l0, l1, some (.int x)] (.int x :: st) := ab_o_iload_n (ab_dc hc15 dX1_whoCanPayOwn_40) rfl
theorem q15_41 {v0 : Int32} {v1 : Nat} : ab_res scr 15 d M 41 [l0, l1, l2] (.int v0 :: .ref v1 :: st) = (ab_ald scr ab_L0 M v1 .int v0).bind fun v => ab_res scr 15 d M 42 [l0, l1, l2] (.int v :: st) := ab_o_iaload (ab_dc hc15 dX1_whoCanPayOwn_41)
theorem q15_42 {v0 : Int32} {v1 : Int32} : ab_res scr 15 d M 42 [l0, l1, l2] (.int v0 :: .int v1 :: st) = if v1 < v0 then ab_res scr 15 d M 51 [l0, l1, l2] (st) else ab_res scr 15 d M 45 [l0, l1, l2] (st) := ab_o_br2 (off := 9) (ab_dc hc15 dX1_whoCanPayOwn_42) (by decide) rfl rfl
theorem q15_45 {x : Int32} : ab_res scr 15 d M 45 [l0, some (.int x), l2] (st) = ab_res scr 15 d M 46 [l0, some (.int x), l2] (.int x :: st) := ab_o_iload_n (ab_dc hc15 dX1_whoCanPayOwn_45) rfl
theorem q15_46 : ab_res scr 15 d M 46 [l0, l1, l2] (st) = ab_res scr 15 d M 47 [l0, l1, l2] (.int 1 :: st) := (ab_o_iconst (ab_dc hc15 dX1_whoCanPayOwn_46)).trans (by rw [ki_iconst_1])
theorem q15_47 {x : Int32} : ab_res scr 15 d M 47 [l0, l1, some (.int x)] (st) = ab_res scr 15 d M 48 [l0, l1, some (.int x)] (.int x :: st) := ab_o_iload_n (ab_dc hc15 dX1_whoCanPayOwn_47) rfl
theorem q15_48 {v0 : Int32} {v1 : Int32} : ab_res scr 15 d M 48 [l0, l1, l2] (.int v0 :: .int v1 :: st) = ab_res scr 15 d M 49 [l0, l1, l2] (.int (v1 <<< (v0 &&& 31)) :: st) := ab_xg (ab_dc hc15 dX1_whoCanPayOwn_48) rfl rfl
theorem q15_49 {v0 : Int32} {v1 : Int32} : ab_res scr 15 d M 49 [l0, l1, l2] (.int v0 :: .int v1 :: st) = ab_res scr 15 d M 50 [l0, l1, l2] (.int (v1 ||| v0) :: st) := ab_xg (ab_dc hc15 dX1_whoCanPayOwn_49) rfl rfl
theorem q15_50 {v0 : Int32} : ab_res scr 15 d M 50 [l0, l1, l2] (.int v0 :: st) = ab_res scr 15 d M 51 [ab_nl l0, some (.int v0), l2] (st) := (ab_o_st1 (k := 1) (ab_dc hc15 dX1_whoCanPayOwn_50) (Or.inr (Or.inr (Or.inl ⟨1, rfl, rfl, rfl, ⟨_, rfl⟩⟩))) hn15 (by decide)).trans (ab_kl1 [] _ l0 rfl rfl)
theorem q15_51 {x : Int32} : ab_res scr 15 d M 51 [l0, l1, some (.int x)] (st) = ab_res scr 15 d M 54 [l0, ab_nl l1, some (.int (x + 1))] (st) := (ab_o_iinc (k := 2) (ab_dc hc15 dX1_whoCanPayOwn_51) hn15 (by decide) rfl).trans (by rw [ki_iconst_1]; exact ab_kl1 [l0] _ l1 rfl rfl)
theorem q15_54 : ab_res scr 15 d M 54 [l0, l1, l2] (st) = ab_res scr 15 d M 4 [l0, l1, l2] (st) := ab_o_goto (ab_dc hc15 dX1_whoCanPayOwn_54) (by decide)
theorem q15_57 {x : Int32} : ab_res scr 15 d M 57 [l0, some (.int x), l2] (st) = ab_res scr 15 d M 58 [l0, some (.int x), l2] (.int x :: st) := ab_o_iload_n (ab_dc hc15 dX1_whoCanPayOwn_57) rfl
theorem q15_58 {v0 : Int32} : ab_res scr 15 d M 58 [l0, l1, l2] ([.int v0]) = some (M, some (.int v0)) := ab_o_ireturn (ab_dc hc15 dX1_whoCanPayOwn_58) hr15 rfl
end Q15
theorem hc16 : ab_code 16 = cX1_sumOfPrices := rfl
theorem hn16 : ab_nL 16 = 4 := rfl
theorem hk16 : ab_ky 16 = 1 := rfl
theorem hr16 : ab_ret 16 = some .int := rfl
section Q16
variable {scr : Option (List Int32)} {d : Nat} {M : ab_M} {st : List Value} {l0 l1 l2 l3 : Option Value}
theorem q16_0 : ab_res scr 16 d M 0 [l0, l1, l2, l3] (st) = ab_res scr 16 d M 1 [l0, l1, l2, l3] (.int 0 :: st) := (ab_o_iconst (ab_dc hc16 dX1_sumOfPrices_0)).trans (by rw [ki_iconst_0])
theorem q16_1 {v0 : Int32} : ab_res scr 16 d M 1 [l0, l1, l2, l3] (.int v0 :: st) = ab_res scr 16 d M 2 [l0, ab_nl l1, some (.int v0), l3] (st) := (ab_o_st1 (k := 2) (ab_dc hc16 dX1_sumOfPrices_1) (Or.inr (Or.inr (Or.inl ⟨2, rfl, rfl, rfl, ⟨_, rfl⟩⟩))) hn16 (by decide)).trans (ab_kl1 [l0] _ l1 rfl rfl)
theorem q16_2 : ab_res scr 16 d M 2 [l0, l1, l2, l3] (st) = ab_res scr 16 d M 3 [l0, l1, l2, l3] (.int 0 :: st) := (ab_o_iconst (ab_dc hc16 dX1_sumOfPrices_2)).trans (by rw [ki_iconst_0])
theorem q16_3 {v0 : Int32} : ab_res scr 16 d M 3 [l0, l1, l2, l3] (.int v0 :: st) = ab_res scr 16 d M 4 [l0, l1, ab_nl l2, some (.int v0)] (st) := (ab_o_st1 (k := 3) (ab_dc hc16 dX1_sumOfPrices_3) (Or.inr (Or.inr (Or.inl ⟨3, rfl, rfl, rfl, ⟨_, rfl⟩⟩))) hn16 (by decide)).trans (ab_kl1 [l0, l1] _ l2 rfl rfl)
theorem q16_4 {x : Int32} : ab_res scr 16 d M 4 [l0, l1, l2, some (.int x)] (st) = ab_res scr 16 d M 5 [l0, l1, l2, some (.int x)] (.int x :: st) := ab_o_iload_n (ab_dc hc16 dX1_sumOfPrices_4) rfl
theorem q16_5 {xr : Nat} : ab_res scr 16 d M 5 [some (.ref xr), l1, l2, l3] (st) = ab_res scr 16 d M 6 [some (.ref xr), l1, l2, l3] (.ref xr :: st) := ab_o_aload_n (ab_dc hc16 dX1_sumOfPrices_5) rfl
theorem q16_6 {v0 : Nat} : ab_res scr 16 d M 6 [l0, l1, l2, l3] (.ref v0 :: st) = (ab_gF ab_L0 M v0 1 0).bind fun v => ab_res scr 16 d M 9 [l0, l1, l2, l3] (v :: st) := ab_o_getfield (ab_dc hc16 dX1_sumOfPrices_6) hk16 lk_fl_1_58
theorem q16_9 {v0 : Nat} : ab_res scr 16 d M 9 [l0, l1, l2, l3] (.ref v0 :: st) = (ab_gF ab_L0 M v0 4 3).bind fun v => ab_res scr 16 d M 12 [l0, l1, l2, l3] (v :: st) := ab_o_getfield (ab_dc hc16 dX1_sumOfPrices_9) hk16 lk_fl_1_64
theorem q16_12 {v0 : Int32} {v1 : Int32} : ab_res scr 16 d M 12 [l0, l1, l2, l3] (.int v0 :: .int v1 :: st) = if v0 ≤ v1 then ab_res scr 16 d M 43 [l0, l1, l2, l3] (st) else ab_res scr 16 d M 15 [l0, l1, l2, l3] (st) := ab_o_br2 (off := 31) (ab_dc hc16 dX1_sumOfPrices_12) (by decide) rfl rfl
theorem q16_15 {x : Int32} : ab_res scr 16 d M 15 [l0, l1, l2, some (.int x)] (st) = ab_res scr 16 d M 16 [l0, l1, l2, some (.int x)] (.int x :: st) := ab_o_iload_n (ab_dc hc16 dX1_sumOfPrices_15) rfl
theorem q16_16 {x : Int32} : ab_res scr 16 d M 16 [l0, some (.int x), l2, l3] (st) = ab_res scr 16 d M 17 [l0, some (.int x), l2, l3] (.int x :: st) := ab_o_iload_n (ab_dc hc16 dX1_sumOfPrices_16) rfl
theorem q16_17 {v0 : Int32} {v1 : Int32} : ab_res scr 16 2 M 17 [l0, l1, l2, l3] ([.int v0, .int v1]) = (ab_ms scr 112 [.int v1, .int v0] M).bind fun o => ab_res scr 16 2 o.1 20 [l0, l1, l2, l3] (ab_pr o.2 []) := ab_o_static (ab_dc hc16 dX1_sumOfPrices_17) hk16 lk_ca_1_117 hm112 (Nat.le_of_ble_eq_true rfl) rfl rfl rfl rfl rfl
theorem q16_20 {v0 : Int32} : ab_res scr 16 d M 20 [l0, l1, l2, l3] (.int v0 :: st) = if v0 = 0 then ab_res scr 16 d M 37 [l0, l1, l2, l3] (st) else ab_res scr 16 d M 23 [l0, l1, l2, l3] (st) := ab_o_br2 (off := 17) (ab_dc hc16 dX1_sumOfPrices_20) (by decide) rfl rfl
theorem q16_23 {x : Int32} : ab_res scr 16 d M 23 [l0, l1, some (.int x), l3] (st) = ab_res scr 16 d M 24 [l0, l1, some (.int x), l3] (.int x :: st) := ab_o_iload_n (ab_dc hc16 dX1_sumOfPrices_23) rfl
theorem q16_24 {xr : Nat} : ab_res scr 16 d M 24 [some (.ref xr), l1, l2, l3] (st) = ab_res scr 16 d M 25 [some (.ref xr), l1, l2, l3] (.ref xr :: st) := ab_o_aload_n (ab_dc hc16 dX1_sumOfPrices_24) rfl
theorem q16_25 {v0 : Nat} : ab_res scr 16 d M 25 [l0, l1, l2, l3] (.ref v0 :: st) = (ab_gF ab_L0 M v0 1 0).bind fun v => ab_res scr 16 d M 28 [l0, l1, l2, l3] (v :: st) := ab_o_getfield (ab_dc hc16 dX1_sumOfPrices_25) hk16 lk_fl_1_58
theorem q16_28 {v0 : Nat} : ab_res scr 16 d M 28 [l0, l1, l2, l3] (.ref v0 :: st) = (ab_gF ab_L0 M v0 4 0).bind fun v => ab_res scr 16 d M 31 [l0, l1, l2, l3] (v :: st) := ab_o_getfield (ab_dc hc16 dX1_sumOfPrices_28) hk16 lk_fl_1_67
theorem q16_31 : ab_res scr 16 d M 31 [l0, l1, l2, l3] (st) = ab_res scr 16 d M 32 [l0, l1, l2, l3] (.int 2 :: st) := (ab_o_iconst (ab_dc hc16 dX1_sumOfPrices_31)).trans (by rw [ki_iconst_2])
theorem q16_32 {v0 : Int32} {v1 : Nat} : ab_res scr 16 d M 32 [l0, l1, l2, l3] (.int v0 :: .ref v1 :: st) = (ab_qe v1 v0).bind fun v => ab_res scr 16 d M 33 [l0, l1, l2, l3] (v :: st) := ab_o_aaload (ab_dc hc16 dX1_sumOfPrices_32)
theorem q16_33 {x : Int32} : ab_res scr 16 d M 33 [l0, l1, l2, some (.int x)] (st) = ab_res scr 16 d M 34 [l0, l1, l2, some (.int x)] (.int x :: st) := ab_o_iload_n (ab_dc hc16 dX1_sumOfPrices_33) rfl
theorem q16_34 {v0 : Int32} {v1 : Nat} : ab_res scr 16 d M 34 [l0, l1, l2, l3] (.int v0 :: .ref v1 :: st) = (ab_ald scr ab_L0 M v1 .int v0).bind fun v => ab_res scr 16 d M 35 [l0, l1, l2, l3] (.int v :: st) := ab_o_iaload (ab_dc hc16 dX1_sumOfPrices_34)
theorem q16_35 {v0 : Int32} {v1 : Int32} : ab_res scr 16 d M 35 [l0, l1, l2, l3] (.int v0 :: .int v1 :: st) = ab_res scr 16 d M 36 [l0, l1, l2, l3] (.int (v1 + v0) :: st) := ab_xg (ab_dc hc16 dX1_sumOfPrices_35) rfl rfl
theorem q16_36 {v0 : Int32} : ab_res scr 16 d M 36 [l0, l1, l2, l3] (.int v0 :: st) = ab_res scr 16 d M 37 [l0, ab_nl l1, some (.int v0), l3] (st) := (ab_o_st1 (k := 2) (ab_dc hc16 dX1_sumOfPrices_36) (Or.inr (Or.inr (Or.inl ⟨2, rfl, rfl, rfl, ⟨_, rfl⟩⟩))) hn16 (by decide)).trans (ab_kl1 [l0] _ l1 rfl rfl)
theorem q16_37 {x : Int32} : ab_res scr 16 d M 37 [l0, l1, l2, some (.int x)] (st) = ab_res scr 16 d M 40 [l0, l1, ab_nl l2, some (.int (x + 1))] (st) := (ab_o_iinc (k := 3) (ab_dc hc16 dX1_sumOfPrices_37) hn16 (by decide) rfl).trans (by rw [ki_iconst_1]; exact ab_kl1 [l0, l1] _ l2 rfl rfl)
theorem q16_40 : ab_res scr 16 d M 40 [l0, l1, l2, l3] (st) = ab_res scr 16 d M 4 [l0, l1, l2, l3] (st) := ab_o_goto (ab_dc hc16 dX1_sumOfPrices_40) (by decide)
theorem q16_43 {x : Int32} : ab_res scr 16 d M 43 [l0, l1, some (.int x), l3] (st) = ab_res scr 16 d M 44 [l0, l1, some (.int x), l3] (.int x :: st) := ab_o_iload_n (ab_dc hc16 dX1_sumOfPrices_43) rfl
theorem q16_44 {v0 : Int32} : ab_res scr 16 d M 44 [l0, l1, l2, l3] ([.int v0]) = some (M, some (.int v0)) := ab_o_ireturn (ab_dc hc16 dX1_sumOfPrices_44) hr16 rfl
end Q16
theorem hc17 : ab_code 17 = cX1_note := rfl
theorem hn17 : ab_nL 17 = 6 := rfl
theorem hk17 : ab_ky 17 = 1 := rfl
theorem hr17 : ab_ret 17 = none := rfl
section Q17
variable {scr : Option (List Int32)} {d : Nat} {M : ab_M} {st : List Value} {l0 l1 l2 l3 l4 l5 : Option Value}
theorem q17_0 {xr : Nat} : ab_res scr 17 d M 0 [some (.ref xr), l1, l2, l3, l4, l5] (st) = ab_res scr 17 d M 1 [some (.ref xr), l1, l2, l3, l4, l5] (.ref xr :: st) := ab_o_aload_n (ab_dc hc17 dX1_note_0) rfl
theorem q17_1 {v0 : Nat} : ab_res scr 17 d M 1 [l0, l1, l2, l3, l4, l5] (.ref v0 :: st) = (ab_gF ab_L0 M v0 1 3).bind fun v => ab_res scr 17 d M 4 [l0, l1, l2, l3, l4, l5] (v :: st) := ab_o_getfield (ab_dc hc17 dX1_note_1) hk17 lk_fl_1_23
theorem q17_4 : ab_res scr 17 d M 4 [l0, l1, l2, l3, l4, l5] (st) = ab_res scr 17 d M 6 [l0, l1, l2, l3, l4, l5] (.int 40 :: st) := (ab_o_bipush (ab_dc hc17 dX1_note_4)).trans (by rw [ki_bipush_40])
theorem q17_6 {v0 : Int32} {v1 : Int32} : ab_res scr 17 d M 6 [l0, l1, l2, l3, l4, l5] (.int v0 :: .int v1 :: st) = if v1 < v0 then ab_res scr 17 d M 10 [l0, l1, l2, l3, l4, l5] (st) else ab_res scr 17 d M 9 [l0, l1, l2, l3, l4, l5] (st) := ab_o_br2 (off := 4) (ab_dc hc17 dX1_note_6) (by decide) rfl rfl
theorem q17_9 : ab_res scr 17 d M 9 [l0, l1, l2, l3, l4, l5] ([]) = some (M, none) := ab_o_return (ab_dc hc17 dX1_note_9) hr17
theorem q17_10 {xr : Nat} : ab_res scr 17 d M 10 [some (.ref xr), l1, l2, l3, l4, l5] (st) = ab_res scr 17 d M 11 [some (.ref xr), l1, l2, l3, l4, l5] (.ref xr :: st) := ab_o_aload_n (ab_dc hc17 dX1_note_10) rfl
theorem q17_11 {v0 : Nat} : ab_res scr 17 d M 11 [l0, l1, l2, l3, l4, l5] (.ref v0 :: st) = (ab_gF ab_L0 M v0 1 2).bind fun v => ab_res scr 17 d M 14 [l0, l1, l2, l3, l4, l5] (v :: st) := ab_o_getfield (ab_dc hc17 dX1_note_11) hk17 lk_fl_1_19
theorem q17_14 {xr : Nat} : ab_res scr 17 d M 14 [some (.ref xr), l1, l2, l3, l4, l5] (st) = ab_res scr 17 d M 15 [some (.ref xr), l1, l2, l3, l4, l5] (.ref xr :: st) := ab_o_aload_n (ab_dc hc17 dX1_note_14) rfl
theorem q17_15 {v0 : Nat} : ab_res scr 17 d M 15 [l0, l1, l2, l3, l4, l5] (.ref v0 :: st) = (ab_gF ab_L0 M v0 1 3).bind fun v => ab_res scr 17 d M 18 [l0, l1, l2, l3, l4, l5] (v :: st) := ab_o_getfield (ab_dc hc17 dX1_note_15) hk17 lk_fl_1_23
theorem q17_18 {v0 : Int32} {v1 : Nat} : ab_res scr 17 d M 18 [l0, l1, l2, l3, l4, l5] (.int v0 :: .ref v1 :: st) = (ab_qe v1 v0).bind fun v => ab_res scr 17 d M 19 [l0, l1, l2, l3, l4, l5] (v :: st) := ab_o_aaload (ab_dc hc17 dX1_note_18)
theorem q17_19 {v0 : Nat} : ab_res scr 17 d M 19 [l0, l1, l2, l3, l4, l5] (.ref v0 :: st) = ab_res scr 17 d M 21 [l0, l1, l2, l3, ab_nl l4, some (.ref v0)] (st) := (ab_o_st1 (k := 5) (ab_dc hc17 dX1_note_19) (Or.inr (Or.inl ⟨rfl, rfl, ⟨_, rfl⟩⟩)) hn17 (by decide)).trans (ab_kl1 [l0, l1, l2, l3] _ l4 rfl rfl)
theorem q17_21 {xr : Nat} : ab_res scr 17 d M 21 [l0, l1, l2, l3, l4, some (.ref xr)] (st) = ab_res scr 17 d M 23 [l0, l1, l2, l3, l4, some (.ref xr)] (.ref xr :: st) := ab_o_aload (ab_dc hc17 dX1_note_21) rfl
theorem q17_23 {x : Int32} : ab_res scr 17 d M 23 [l0, some (.int x), l2, l3, l4, l5] (st) = ab_res scr 17 d M 24 [l0, some (.int x), l2, l3, l4, l5] (.int x :: st) := ab_o_iload_n (ab_dc hc17 dX1_note_23) rfl
theorem q17_24 {v0 : Int32} {v1 : Nat} (hp : (ab_pt v1 6 0 v0 = true) = True) : ab_res scr 17 d M 24 [l0, l1, l2, l3, l4, l5] (.int v0 :: .ref v1 :: st) = ab_res scr 17 d (ab_up M v1 0 v0) 27 [l0, l1, l2, l3, l4, l5] (st) := ab_o_putfield (ab_dc hc17 dX1_note_24) hk17 lk_fl_1_167 (of_eq_true hp)
theorem q17_27 {xr : Nat} : ab_res scr 17 d M 27 [l0, l1, l2, l3, l4, some (.ref xr)] (st) = ab_res scr 17 d M 29 [l0, l1, l2, l3, l4, some (.ref xr)] (.ref xr :: st) := ab_o_aload (ab_dc hc17 dX1_note_27) rfl
theorem q17_29 {x : Int32} : ab_res scr 17 d M 29 [l0, l1, some (.int x), l3, l4, l5] (st) = ab_res scr 17 d M 30 [l0, l1, some (.int x), l3, l4, l5] (.int x :: st) := ab_o_iload_n (ab_dc hc17 dX1_note_29) rfl
theorem q17_30 {v0 : Int32} {v1 : Nat} (hp : (ab_pt v1 6 1 v0 = true) = True) : ab_res scr 17 d M 30 [l0, l1, l2, l3, l4, l5] (.int v0 :: .ref v1 :: st) = ab_res scr 17 d (ab_up M v1 1 v0) 33 [l0, l1, l2, l3, l4, l5] (st) := ab_o_putfield (ab_dc hc17 dX1_note_30) hk17 lk_fl_1_170 (of_eq_true hp)
theorem q17_33 {xr : Nat} : ab_res scr 17 d M 33 [l0, l1, l2, l3, l4, some (.ref xr)] (st) = ab_res scr 17 d M 35 [l0, l1, l2, l3, l4, some (.ref xr)] (.ref xr :: st) := ab_o_aload (ab_dc hc17 dX1_note_33) rfl
theorem q17_35 {x : Int32} : ab_res scr 17 d M 35 [l0, l1, l2, some (.int x), l4, l5] (st) = ab_res scr 17 d M 36 [l0, l1, l2, some (.int x), l4, l5] (.int x :: st) := ab_o_iload_n (ab_dc hc17 dX1_note_35) rfl
theorem q17_36 {v0 : Int32} {v1 : Nat} (hp : (ab_pt v1 6 2 v0 = true) = True) : ab_res scr 17 d M 36 [l0, l1, l2, l3, l4, l5] (.int v0 :: .ref v1 :: st) = ab_res scr 17 d (ab_up M v1 2 v0) 39 [l0, l1, l2, l3, l4, l5] (st) := ab_o_putfield (ab_dc hc17 dX1_note_36) hk17 lk_fl_1_173 (of_eq_true hp)
theorem q17_39 {xr : Nat} : ab_res scr 17 d M 39 [l0, l1, l2, l3, l4, some (.ref xr)] (st) = ab_res scr 17 d M 41 [l0, l1, l2, l3, l4, some (.ref xr)] (.ref xr :: st) := ab_o_aload (ab_dc hc17 dX1_note_39) rfl
theorem q17_41 {x : Int32} : ab_res scr 17 d M 41 [l0, l1, l2, l3, some (.int x), l5] (st) = ab_res scr 17 d M 43 [l0, l1, l2, l3, some (.int x), l5] (.int x :: st) := ab_o_iload (ab_dc hc17 dX1_note_41) rfl
theorem q17_43 {v0 : Int32} {v1 : Nat} (hp : (ab_pt v1 6 3 v0 = true) = True) : ab_res scr 17 d M 43 [l0, l1, l2, l3, l4, l5] (.int v0 :: .ref v1 :: st) = ab_res scr 17 d (ab_up M v1 3 v0) 46 [l0, l1, l2, l3, l4, l5] (st) := ab_o_putfield (ab_dc hc17 dX1_note_43) hk17 lk_fl_1_174 (of_eq_true hp)
theorem q17_46 {xr : Nat} : ab_res scr 17 d M 46 [l0, l1, l2, l3, l4, some (.ref xr)] (st) = ab_res scr 17 d M 48 [l0, l1, l2, l3, l4, some (.ref xr)] (.ref xr :: st) := ab_o_aload (ab_dc hc17 dX1_note_46) rfl
theorem q17_48 {xr : Nat} : ab_res scr 17 d M 48 [some (.ref xr), l1, l2, l3, l4, l5] (st) = ab_res scr 17 d M 49 [some (.ref xr), l1, l2, l3, l4, l5] (.ref xr :: st) := ab_o_aload_n (ab_dc hc17 dX1_note_48) rfl
theorem q17_49 {v0 : Nat} : ab_res scr 17 d M 49 [l0, l1, l2, l3, l4, l5] (.ref v0 :: st) = (ab_gF ab_L0 M v0 1 12).bind fun v => ab_res scr 17 d M 52 [l0, l1, l2, l3, l4, l5] (v :: st) := ab_o_getfield (ab_dc hc17 dX1_note_49) hk17 lk_fl_1_52
theorem q17_52 {v0 : Int32} {v1 : Nat} (hp : (ab_pt v1 6 4 v0 = true) = True) : ab_res scr 17 d M 52 [l0, l1, l2, l3, l4, l5] (.int v0 :: .ref v1 :: st) = ab_res scr 17 d (ab_up M v1 4 v0) 55 [l0, l1, l2, l3, l4, l5] (st) := ab_o_putfield (ab_dc hc17 dX1_note_52) hk17 lk_fl_1_177 (of_eq_true hp)
theorem q17_55 {xr : Nat} : ab_res scr 17 d M 55 [some (.ref xr), l1, l2, l3, l4, l5] (st) = ab_res scr 17 d M 56 [some (.ref xr), l1, l2, l3, l4, l5] (.ref xr :: st) := ab_o_aload_n (ab_dc hc17 dX1_note_55) rfl
theorem q17_56 {v0 : Nat} : ab_res scr 17 d M 56 [l0, l1, l2, l3, l4, l5] (.ref v0 :: st) = ab_res scr 17 d M 57 [l0, l1, l2, l3, l4, l5] (.ref v0 :: .ref v0 :: st) := ab_xg (ab_dc hc17 dX1_note_56) rfl rfl
theorem q17_57 {v0 : Nat} : ab_res scr 17 d M 57 [l0, l1, l2, l3, l4, l5] (.ref v0 :: st) = (ab_gF ab_L0 M v0 1 3).bind fun v => ab_res scr 17 d M 60 [l0, l1, l2, l3, l4, l5] (v :: st) := ab_o_getfield (ab_dc hc17 dX1_note_57) hk17 lk_fl_1_23
theorem q17_60 : ab_res scr 17 d M 60 [l0, l1, l2, l3, l4, l5] (st) = ab_res scr 17 d M 61 [l0, l1, l2, l3, l4, l5] (.int 1 :: st) := (ab_o_iconst (ab_dc hc17 dX1_note_60)).trans (by rw [ki_iconst_1])
theorem q17_61 {v0 : Int32} {v1 : Int32} : ab_res scr 17 d M 61 [l0, l1, l2, l3, l4, l5] (.int v0 :: .int v1 :: st) = ab_res scr 17 d M 62 [l0, l1, l2, l3, l4, l5] (.int (v1 + v0) :: st) := ab_xg (ab_dc hc17 dX1_note_61) rfl rfl
theorem q17_62 {v0 : Int32} {v1 : Nat} (hp : (ab_pt v1 1 3 v0 = true) = True) : ab_res scr 17 d M 62 [l0, l1, l2, l3, l4, l5] (.int v0 :: .ref v1 :: st) = ab_res scr 17 d (ab_up M v1 3 v0) 65 [l0, l1, l2, l3, l4, l5] (st) := ab_o_putfield (ab_dc hc17 dX1_note_62) hk17 lk_fl_1_23 (of_eq_true hp)
theorem q17_65 {xr : Nat} : ab_res scr 17 d M 65 [some (.ref xr), l1, l2, l3, l4, l5] (st) = ab_res scr 17 d M 66 [some (.ref xr), l1, l2, l3, l4, l5] (.ref xr :: st) := ab_o_aload_n (ab_dc hc17 dX1_note_65) rfl
theorem q17_66 {v0 : Nat} : ab_res scr 17 d M 66 [l0, l1, l2, l3, l4, l5] (.ref v0 :: st) = ab_res scr 17 d M 67 [l0, l1, l2, l3, l4, l5] (.ref v0 :: .ref v0 :: st) := ab_xg (ab_dc hc17 dX1_note_66) rfl rfl
theorem q17_67 {v0 : Nat} : ab_res scr 17 d M 67 [l0, l1, l2, l3, l4, l5] (.ref v0 :: st) = (ab_gF ab_L0 M v0 1 11).bind fun v => ab_res scr 17 d M 70 [l0, l1, l2, l3, l4, l5] (v :: st) := ab_o_getfield (ab_dc hc17 dX1_note_67) hk17 lk_fl_1_49
theorem q17_70 : ab_res scr 17 d M 70 [l0, l1, l2, l3, l4, l5] (st) = ab_res scr 17 d M 71 [l0, l1, l2, l3, l4, l5] (.int 1 :: st) := (ab_o_iconst (ab_dc hc17 dX1_note_70)).trans (by rw [ki_iconst_1])
theorem q17_71 {v0 : Int32} {v1 : Int32} : ab_res scr 17 d M 71 [l0, l1, l2, l3, l4, l5] (.int v0 :: .int v1 :: st) = ab_res scr 17 d M 72 [l0, l1, l2, l3, l4, l5] (.int (v1 + v0) :: st) := ab_xg (ab_dc hc17 dX1_note_71) rfl rfl
theorem q17_72 {v0 : Int32} {v1 : Nat} (hp : (ab_pt v1 1 11 v0 = true) = True) : ab_res scr 17 d M 72 [l0, l1, l2, l3, l4, l5] (.int v0 :: .ref v1 :: st) = ab_res scr 17 d (ab_up M v1 11 v0) 75 [l0, l1, l2, l3, l4, l5] (st) := ab_o_putfield (ab_dc hc17 dX1_note_72) hk17 lk_fl_1_49 (of_eq_true hp)
theorem q17_75 {xr : Nat} : ab_res scr 17 d M 75 [some (.ref xr), l1, l2, l3, l4, l5] (st) = ab_res scr 17 d M 76 [some (.ref xr), l1, l2, l3, l4, l5] (.ref xr :: st) := ab_o_aload_n (ab_dc hc17 dX1_note_75) rfl
theorem q17_76 {v0 : Nat} : ab_res scr 17 d M 76 [l0, l1, l2, l3, l4, l5] (.ref v0 :: st) = ab_res scr 17 d M 77 [l0, l1, l2, l3, l4, l5] (.ref v0 :: .ref v0 :: st) := ab_xg (ab_dc hc17 dX1_note_76) rfl rfl
theorem q17_77 {v0 : Nat} : ab_res scr 17 d M 77 [l0, l1, l2, l3, l4, l5] (.ref v0 :: st) = (ab_gF ab_L0 M v0 1 4).bind fun v => ab_res scr 17 d M 80 [l0, l1, l2, l3, l4, l5] (v :: st) := ab_o_getfield (ab_dc hc17 dX1_note_77) hk17 lk_fl_1_27
theorem q17_80 {x : Int32} : ab_res scr 17 d M 80 [l0, l1, l2, some (.int x), l4, l5] (st) = ab_res scr 17 d M 81 [l0, l1, l2, some (.int x), l4, l5] (.int x :: st) := ab_o_iload_n (ab_dc hc17 dX1_note_80) rfl
theorem q17_81 {v0 : Int32} {v1 : Int32} : ab_res scr 17 d M 81 [l0, l1, l2, l3, l4, l5] (.int v0 :: .int v1 :: st) = ab_res scr 17 d M 82 [l0, l1, l2, l3, l4, l5] (.int (v1 + v0) :: st) := ab_xg (ab_dc hc17 dX1_note_81) rfl rfl
theorem q17_82 {v0 : Int32} {v1 : Nat} (hp : (ab_pt v1 1 4 v0 = true) = True) : ab_res scr 17 d M 82 [l0, l1, l2, l3, l4, l5] (.int v0 :: .ref v1 :: st) = ab_res scr 17 d (ab_up M v1 4 v0) 85 [l0, l1, l2, l3, l4, l5] (st) := ab_o_putfield (ab_dc hc17 dX1_note_82) hk17 lk_fl_1_27 (of_eq_true hp)
theorem q17_85 : ab_res scr 17 d M 85 [l0, l1, l2, l3, l4, l5] ([]) = some (M, none) := ab_o_return (ab_dc hc17 dX1_note_85) hr17
end Q17
theorem hc18 : ab_code 18 = cX1_pour := rfl
theorem hn18 : ab_nL 18 = 4 := rfl
theorem hk18 : ab_ky 18 = 1 := rfl
theorem hr18 : ab_ret 18 = none := rfl
section Q18
variable {scr : Option (List Int32)} {d : Nat} {M : ab_M} {st : List Value} {l0 l1 l2 l3 : Option Value}
theorem q18_0 : ab_res scr 18 d M 0 [l0, l1, l2, l3] (st) = ab_res scr 18 d M 1 [l0, l1, l2, l3] (.int 0 :: st) := (ab_o_iconst (ab_dc hc18 dX1_pour_0)).trans (by rw [ki_iconst_0])
theorem q18_1 {v0 : Int32} : ab_res scr 18 d M 1 [l0, l1, l2, l3] (.int v0 :: st) = ab_res scr 18 d M 2 [l0, l1, ab_nl l2, some (.int v0)] (st) := (ab_o_st1 (k := 3) (ab_dc hc18 dX1_pour_1) (Or.inr (Or.inr (Or.inl ⟨3, rfl, rfl, rfl, ⟨_, rfl⟩⟩))) hn18 (by decide)).trans (ab_kl1 [l0, l1] _ l2 rfl rfl)
theorem q18_2 {x : Int32} : ab_res scr 18 d M 2 [l0, l1, l2, some (.int x)] (st) = ab_res scr 18 d M 3 [l0, l1, l2, some (.int x)] (.int x :: st) := ab_o_iload_n (ab_dc hc18 dX1_pour_2) rfl
theorem q18_3 {xr : Nat} : ab_res scr 18 d M 3 [some (.ref xr), l1, l2, l3] (st) = ab_res scr 18 d M 4 [some (.ref xr), l1, l2, l3] (.ref xr :: st) := ab_o_aload_n (ab_dc hc18 dX1_pour_3) rfl
theorem q18_4 {v0 : Nat} : ab_res scr 18 d M 4 [l0, l1, l2, l3] (.ref v0 :: st) = (ab_gF ab_L0 M v0 1 0).bind fun v => ab_res scr 18 d M 7 [l0, l1, l2, l3] (v :: st) := ab_o_getfield (ab_dc hc18 dX1_pour_4) hk18 lk_fl_1_58
theorem q18_7 {v0 : Nat} : ab_res scr 18 d M 7 [l0, l1, l2, l3] (.ref v0 :: st) = (ab_gF ab_L0 M v0 4 3).bind fun v => ab_res scr 18 d M 10 [l0, l1, l2, l3] (v :: st) := ab_o_getfield (ab_dc hc18 dX1_pour_7) hk18 lk_fl_1_64
theorem q18_10 {v0 : Int32} {v1 : Int32} : ab_res scr 18 d M 10 [l0, l1, l2, l3] (.int v0 :: .int v1 :: st) = if v0 ≤ v1 then ab_res scr 18 d M 89 [l0, l1, l2, l3] (st) else ab_res scr 18 d M 13 [l0, l1, l2, l3] (st) := ab_o_br2 (off := 79) (ab_dc hc18 dX1_pour_10) (by decide) rfl rfl
theorem q18_13 {x : Int32} : ab_res scr 18 d M 13 [l0, l1, l2, some (.int x)] (st) = ab_res scr 18 d M 14 [l0, l1, l2, some (.int x)] (.int x :: st) := ab_o_iload_n (ab_dc hc18 dX1_pour_13) rfl
theorem q18_14 {x : Int32} : ab_res scr 18 d M 14 [l0, some (.int x), l2, l3] (st) = ab_res scr 18 d M 15 [l0, some (.int x), l2, l3] (.int x :: st) := ab_o_iload_n (ab_dc hc18 dX1_pour_14) rfl
theorem q18_15 {v0 : Int32} {v1 : Int32} : ab_res scr 18 2 M 15 [l0, l1, l2, l3] ([.int v0, .int v1]) = (ab_ms scr 112 [.int v1, .int v0] M).bind fun o => ab_res scr 18 2 o.1 18 [l0, l1, l2, l3] (ab_pr o.2 []) := ab_o_static (ab_dc hc18 dX1_pour_15) hk18 lk_ca_1_117 hm112 (Nat.le_of_ble_eq_true rfl) rfl rfl rfl rfl rfl
theorem q18_18 {v0 : Int32} : ab_res scr 18 d M 18 [l0, l1, l2, l3] (.int v0 :: st) = if v0 = 0 then ab_res scr 18 d M 83 [l0, l1, l2, l3] (st) else ab_res scr 18 d M 21 [l0, l1, l2, l3] (st) := ab_o_br2 (off := 65) (ab_dc hc18 dX1_pour_18) (by decide) rfl rfl
theorem q18_21 {xr : Nat} : ab_res scr 18 d M 21 [some (.ref xr), l1, l2, l3] (st) = ab_res scr 18 d M 22 [some (.ref xr), l1, l2, l3] (.ref xr :: st) := ab_o_aload_n (ab_dc hc18 dX1_pour_21) rfl
theorem q18_22 {v0 : Nat} : ab_res scr 18 d M 22 [l0, l1, l2, l3] (.ref v0 :: st) = (ab_gF ab_L0 M v0 1 1).bind fun v => ab_res scr 18 d M 25 [l0, l1, l2, l3] (v :: st) := ab_o_getfield (ab_dc hc18 dX1_pour_22) hk18 lk_fl_1_11
theorem q18_25 {x : Int32} : ab_res scr 18 d M 25 [l0, l1, l2, some (.int x)] (st) = ab_res scr 18 d M 26 [l0, l1, l2, some (.int x)] (.int x :: st) := ab_o_iload_n (ab_dc hc18 dX1_pour_25) rfl
theorem q18_26 {v0 : Int32} {v1 : Nat} : ab_res scr 18 d M 26 [l0, l1, l2, l3] (.int v0 :: .ref v1 :: st) = (ab_qe v1 v0).bind fun v => ab_res scr 18 d M 27 [l0, l1, l2, l3] (v :: st) := ab_o_aaload (ab_dc hc18 dX1_pour_26)
theorem q18_27 {v0 : Nat} : ab_res scr 18 d M 27 [l0, l1, l2, l3] (.ref v0 :: st) = ab_res scr 18 d M 28 [l0, l1, l2, l3] (.ref v0 :: .ref v0 :: st) := ab_xg (ab_dc hc18 dX1_pour_27) rfl rfl
theorem q18_28 {v0 : Nat} : ab_res scr 18 d M 28 [l0, l1, l2, l3] (.ref v0 :: st) = (ab_gF ab_L0 M v0 7 1).bind fun v => ab_res scr 18 d M 31 [l0, l1, l2, l3] (v :: st) := ab_o_getfield (ab_dc hc18 dX1_pour_28) hk18 lk_fl_1_178
theorem q18_31 {xr : Nat} : ab_res scr 18 d M 31 [some (.ref xr), l1, l2, l3] (st) = ab_res scr 18 d M 32 [some (.ref xr), l1, l2, l3] (.ref xr :: st) := ab_o_aload_n (ab_dc hc18 dX1_pour_31) rfl
theorem q18_32 {v0 : Nat} : ab_res scr 18 d M 32 [l0, l1, l2, l3] (.ref v0 :: st) = (ab_gF ab_L0 M v0 1 0).bind fun v => ab_res scr 18 d M 35 [l0, l1, l2, l3] (v :: st) := ab_o_getfield (ab_dc hc18 dX1_pour_32) hk18 lk_fl_1_58
theorem q18_35 {v0 : Nat} : ab_res scr 18 d M 35 [l0, l1, l2, l3] (.ref v0 :: st) = (ab_gF ab_L0 M v0 4 0).bind fun v => ab_res scr 18 d M 38 [l0, l1, l2, l3] (v :: st) := ab_o_getfield (ab_dc hc18 dX1_pour_35) hk18 lk_fl_1_67
theorem q18_38 : ab_res scr 18 d M 38 [l0, l1, l2, l3] (st) = ab_res scr 18 d M 39 [l0, l1, l2, l3] (.int 2 :: st) := (ab_o_iconst (ab_dc hc18 dX1_pour_38)).trans (by rw [ki_iconst_2])
theorem q18_39 {v0 : Int32} {v1 : Nat} : ab_res scr 18 d M 39 [l0, l1, l2, l3] (.int v0 :: .ref v1 :: st) = (ab_qe v1 v0).bind fun v => ab_res scr 18 d M 40 [l0, l1, l2, l3] (v :: st) := ab_o_aaload (ab_dc hc18 dX1_pour_39)
theorem q18_40 {x : Int32} : ab_res scr 18 d M 40 [l0, l1, l2, some (.int x)] (st) = ab_res scr 18 d M 41 [l0, l1, l2, some (.int x)] (.int x :: st) := ab_o_iload_n (ab_dc hc18 dX1_pour_40) rfl
theorem q18_41 {v0 : Int32} {v1 : Nat} : ab_res scr 18 d M 41 [l0, l1, l2, l3] (.int v0 :: .ref v1 :: st) = (ab_ald scr ab_L0 M v1 .int v0).bind fun v => ab_res scr 18 d M 42 [l0, l1, l2, l3] (.int v :: st) := ab_o_iaload (ab_dc hc18 dX1_pour_41)
theorem q18_42 {v0 : Int32} {v1 : Int32} : ab_res scr 18 d M 42 [l0, l1, l2, l3] (.int v0 :: .int v1 :: st) = ab_res scr 18 d M 43 [l0, l1, l2, l3] (.int (v1 + v0) :: st) := ab_xg (ab_dc hc18 dX1_pour_42) rfl rfl
theorem q18_43 {v0 : Int32} {v1 : Nat} (hp : (ab_pt v1 7 1 v0 = true) = True) : ab_res scr 18 d M 43 [l0, l1, l2, l3] (.int v0 :: .ref v1 :: st) = ab_res scr 18 d (ab_up M v1 1 v0) 46 [l0, l1, l2, l3] (st) := ab_o_putfield (ab_dc hc18 dX1_pour_43) hk18 lk_fl_1_178 (of_eq_true hp)
theorem q18_46 {xr : Nat} : ab_res scr 18 d M 46 [some (.ref xr), l1, l2, l3] (st) = ab_res scr 18 d M 47 [some (.ref xr), l1, l2, l3] (.ref xr :: st) := ab_o_aload_n (ab_dc hc18 dX1_pour_46) rfl
theorem q18_47 {v0 : Nat} : ab_res scr 18 d M 47 [l0, l1, l2, l3] (.ref v0 :: st) = (ab_gF ab_L0 M v0 1 1).bind fun v => ab_res scr 18 d M 50 [l0, l1, l2, l3] (v :: st) := ab_o_getfield (ab_dc hc18 dX1_pour_47) hk18 lk_fl_1_11
theorem q18_50 {x : Int32} : ab_res scr 18 d M 50 [l0, l1, l2, some (.int x)] (st) = ab_res scr 18 d M 51 [l0, l1, l2, some (.int x)] (.int x :: st) := ab_o_iload_n (ab_dc hc18 dX1_pour_50) rfl
theorem q18_51 {v0 : Int32} {v1 : Nat} : ab_res scr 18 d M 51 [l0, l1, l2, l3] (.int v0 :: .ref v1 :: st) = (ab_qe v1 v0).bind fun v => ab_res scr 18 d M 52 [l0, l1, l2, l3] (v :: st) := ab_o_aaload (ab_dc hc18 dX1_pour_51)
theorem q18_52 {v0 : Nat} : ab_res scr 18 d M 52 [l0, l1, l2, l3] (.ref v0 :: st) = ab_res scr 18 d M 53 [l0, l1, l2, l3] (.ref v0 :: .ref v0 :: st) := ab_xg (ab_dc hc18 dX1_pour_52) rfl rfl
theorem q18_53 {v0 : Nat} : ab_res scr 18 d M 53 [l0, l1, l2, l3] (.ref v0 :: st) = (ab_gF ab_L0 M v0 7 3).bind fun v => ab_res scr 18 d M 56 [l0, l1, l2, l3] (v :: st) := ab_o_getfield (ab_dc hc18 dX1_pour_53) hk18 lk_fl_1_181
theorem q18_56 : ab_res scr 18 d M 56 [l0, l1, l2, l3] (st) = ab_res scr 18 d M 57 [l0, l1, l2, l3] (.int 1 :: st) := (ab_o_iconst (ab_dc hc18 dX1_pour_56)).trans (by rw [ki_iconst_1])
theorem q18_57 {v0 : Int32} {v1 : Int32} : ab_res scr 18 d M 57 [l0, l1, l2, l3] (.int v0 :: .int v1 :: st) = ab_res scr 18 d M 58 [l0, l1, l2, l3] (.int (v1 + v0) :: st) := ab_xg (ab_dc hc18 dX1_pour_57) rfl rfl
theorem q18_58 {v0 : Int32} {v1 : Nat} (hp : (ab_pt v1 7 3 v0 = true) = True) : ab_res scr 18 d M 58 [l0, l1, l2, l3] (.int v0 :: .ref v1 :: st) = ab_res scr 18 d (ab_up M v1 3 v0) 61 [l0, l1, l2, l3] (st) := ab_o_putfield (ab_dc hc18 dX1_pour_58) hk18 lk_fl_1_181 (of_eq_true hp)
theorem q18_61 {xr : Nat} : ab_res scr 18 d M 61 [some (.ref xr), l1, l2, l3] (st) = ab_res scr 18 d M 62 [some (.ref xr), l1, l2, l3] (.ref xr :: st) := ab_o_aload_n (ab_dc hc18 dX1_pour_61) rfl
theorem q18_62 {v0 : Nat} : ab_res scr 18 d M 62 [l0, l1, l2, l3] (.ref v0 :: st) = (ab_gF ab_L0 M v0 1 1).bind fun v => ab_res scr 18 d M 65 [l0, l1, l2, l3] (v :: st) := ab_o_getfield (ab_dc hc18 dX1_pour_62) hk18 lk_fl_1_11
theorem q18_65 {x : Int32} : ab_res scr 18 d M 65 [l0, l1, l2, some (.int x)] (st) = ab_res scr 18 d M 66 [l0, l1, l2, some (.int x)] (.int x :: st) := ab_o_iload_n (ab_dc hc18 dX1_pour_65) rfl
theorem q18_66 {v0 : Int32} {v1 : Nat} : ab_res scr 18 d M 66 [l0, l1, l2, l3] (.int v0 :: .ref v1 :: st) = (ab_qe v1 v0).bind fun v => ab_res scr 18 d M 67 [l0, l1, l2, l3] (v :: st) := ab_o_aaload (ab_dc hc18 dX1_pour_66)
theorem q18_67 {x : Int32} : ab_res scr 18 d M 67 [l0, l1, some (.int x), l3] (st) = ab_res scr 18 d M 68 [l0, l1, some (.int x), l3] (.int x :: st) := ab_o_iload_n (ab_dc hc18 dX1_pour_67) rfl
theorem q18_68 {xr : Nat} : ab_res scr 18 d M 68 [some (.ref xr), l1, l2, l3] (st) = ab_res scr 18 d M 69 [some (.ref xr), l1, l2, l3] (.ref xr :: st) := ab_o_aload_n (ab_dc hc18 dX1_pour_68) rfl
theorem q18_69 {v0 : Nat} : ab_res scr 18 d M 69 [l0, l1, l2, l3] (.ref v0 :: st) = (ab_gF ab_L0 M v0 1 0).bind fun v => ab_res scr 18 d M 72 [l0, l1, l2, l3] (v :: st) := ab_o_getfield (ab_dc hc18 dX1_pour_69) hk18 lk_fl_1_58
theorem q18_72 {v0 : Nat} : ab_res scr 18 d M 72 [l0, l1, l2, l3] (.ref v0 :: st) = (ab_gF ab_L0 M v0 4 0).bind fun v => ab_res scr 18 d M 75 [l0, l1, l2, l3] (v :: st) := ab_o_getfield (ab_dc hc18 dX1_pour_72) hk18 lk_fl_1_67
theorem q18_75 : ab_res scr 18 d M 75 [l0, l1, l2, l3] (st) = ab_res scr 18 d M 76 [l0, l1, l2, l3] (.int 3 :: st) := (ab_o_iconst (ab_dc hc18 dX1_pour_75)).trans (by rw [ki_iconst_3])
theorem q18_76 {v0 : Int32} {v1 : Nat} : ab_res scr 18 d M 76 [l0, l1, l2, l3] (.int v0 :: .ref v1 :: st) = (ab_qe v1 v0).bind fun v => ab_res scr 18 d M 77 [l0, l1, l2, l3] (v :: st) := ab_o_aaload (ab_dc hc18 dX1_pour_76)
theorem q18_77 {x : Int32} : ab_res scr 18 d M 77 [l0, l1, l2, some (.int x)] (st) = ab_res scr 18 d M 78 [l0, l1, l2, some (.int x)] (.int x :: st) := ab_o_iload_n (ab_dc hc18 dX1_pour_77) rfl
theorem q18_78 {v0 : Int32} {v1 : Nat} : ab_res scr 18 d M 78 [l0, l1, l2, l3] (.int v0 :: .ref v1 :: st) = (ab_ald scr ab_L0 M v1 .int v0).bind fun v => ab_res scr 18 d M 79 [l0, l1, l2, l3] (.int v :: st) := ab_o_iaload (ab_dc hc18 dX1_pour_78)
theorem q18_79 {v0 : Int32} {v1 : Int32} : ab_res scr 18 d M 79 [l0, l1, l2, l3] (.int v0 :: .int v1 :: st) = ab_res scr 18 d M 80 [l0, l1, l2, l3] (.int (v1 + v0) :: st) := ab_xg (ab_dc hc18 dX1_pour_79) rfl rfl
theorem q18_80 {v0 : Int32} {v1 : Nat} (hp : (ab_pt v1 7 6 v0 = true) = True) : ab_res scr 18 d M 80 [l0, l1, l2, l3] (.int v0 :: .ref v1 :: st) = ab_res scr 18 d (ab_up M v1 6 v0) 83 [l0, l1, l2, l3] (st) := ab_o_putfield (ab_dc hc18 dX1_pour_80) hk18 lk_fl_1_111 (of_eq_true hp)
theorem q18_83 {x : Int32} : ab_res scr 18 d M 83 [l0, l1, l2, some (.int x)] (st) = ab_res scr 18 d M 86 [l0, l1, ab_nl l2, some (.int (x + 1))] (st) := (ab_o_iinc (k := 3) (ab_dc hc18 dX1_pour_83) hn18 (by decide) rfl).trans (by rw [ki_iconst_1]; exact ab_kl1 [l0, l1] _ l2 rfl rfl)
theorem q18_86 : ab_res scr 18 d M 86 [l0, l1, l2, l3] (st) = ab_res scr 18 d M 2 [l0, l1, l2, l3] (st) := ab_o_goto (ab_dc hc18 dX1_pour_86) (by decide)
theorem q18_89 {xr : Nat} : ab_res scr 18 d M 89 [some (.ref xr), l1, l2, l3] (st) = ab_res scr 18 d M 90 [some (.ref xr), l1, l2, l3] (.ref xr :: st) := ab_o_aload_n (ab_dc hc18 dX1_pour_89) rfl
theorem q18_90 {v0 : Nat} : ab_res scr 18 d M 90 [l0, l1, l2, l3] (.ref v0 :: st) = ab_res scr 18 d M 91 [l0, l1, l2, l3] (.ref v0 :: .ref v0 :: st) := ab_xg (ab_dc hc18 dX1_pour_90) rfl rfl
theorem q18_91 {v0 : Nat} : ab_res scr 18 d M 91 [l0, l1, l2, l3] (.ref v0 :: st) = (ab_gF ab_L0 M v0 1 13).bind fun v => ab_res scr 18 d M 94 [l0, l1, l2, l3] (v :: st) := ab_o_getfield (ab_dc hc18 dX1_pour_91) hk18 lk_fl_1_55
theorem q18_94 {x : Int32} : ab_res scr 18 d M 94 [l0, some (.int x), l2, l3] (st) = ab_res scr 18 d M 95 [l0, some (.int x), l2, l3] (.int x :: st) := ab_o_iload_n (ab_dc hc18 dX1_pour_94) rfl
theorem q18_95 : ab_res scr 18 d M 95 [l0, l1, l2, l3] (st) = ab_res scr 18 d M 96 [l0, l1, l2, l3] (.int (-1) :: st) := (ab_o_iconst (ab_dc hc18 dX1_pour_95)).trans (by rw [ki_iconst_m1])
theorem q18_96 {v0 : Int32} {v1 : Int32} : ab_res scr 18 d M 96 [l0, l1, l2, l3] (.int v0 :: .int v1 :: st) = ab_res scr 18 d M 97 [l0, l1, l2, l3] (.int (v1 ^^^ v0) :: st) := ab_xg (ab_dc hc18 dX1_pour_96) rfl rfl
theorem q18_97 {v0 : Int32} {v1 : Int32} : ab_res scr 18 d M 97 [l0, l1, l2, l3] (.int v0 :: .int v1 :: st) = ab_res scr 18 d M 98 [l0, l1, l2, l3] (.int (v1 &&& v0) :: st) := ab_xg (ab_dc hc18 dX1_pour_97) rfl rfl
theorem q18_98 {v0 : Int32} {v1 : Nat} (hp : (ab_pt v1 1 13 v0 = true) = True) : ab_res scr 18 d M 98 [l0, l1, l2, l3] (.int v0 :: .ref v1 :: st) = ab_res scr 18 d (ab_up M v1 13 v0) 101 [l0, l1, l2, l3] (st) := ab_o_putfield (ab_dc hc18 dX1_pour_98) hk18 lk_fl_1_55 (of_eq_true hp)
theorem q18_101 : ab_res scr 18 d M 101 [l0, l1, l2, l3] ([]) = some (M, none) := ab_o_return (ab_dc hc18 dX1_pour_101) hr18
end Q18
theorem hc19 : ab_code 19 = cX1_payOwn := rfl
theorem hn19 : ab_nL 19 = 3 := rfl
theorem hk19 : ab_ky 19 = 1 := rfl
theorem hr19 : ab_ret 19 = none := rfl
section Q19
variable {scr : Option (List Int32)} {d : Nat} {M : ab_M} {st : List Value} {l0 l1 l2 : Option Value}
theorem q19_0 : ab_res scr 19 d M 0 [l0, l1, l2] (st) = ab_res scr 19 d M 1 [l0, l1, l2] (.int 0 :: st) := (ab_o_iconst (ab_dc hc19 dX1_payOwn_0)).trans (by rw [ki_iconst_0])
theorem q19_1 {v0 : Int32} : ab_res scr 19 d M 1 [l0, l1, l2] (.int v0 :: st) = ab_res scr 19 d M 2 [l0, ab_nl l1, some (.int v0)] (st) := (ab_o_st1 (k := 2) (ab_dc hc19 dX1_payOwn_1) (Or.inr (Or.inr (Or.inl ⟨2, rfl, rfl, rfl, ⟨_, rfl⟩⟩))) hn19 (by decide)).trans (ab_kl1 [l0] _ l1 rfl rfl)
theorem q19_2 {x : Int32} : ab_res scr 19 d M 2 [l0, l1, some (.int x)] (st) = ab_res scr 19 d M 3 [l0, l1, some (.int x)] (.int x :: st) := ab_o_iload_n (ab_dc hc19 dX1_payOwn_2) rfl
theorem q19_3 {xr : Nat} : ab_res scr 19 d M 3 [some (.ref xr), l1, l2] (st) = ab_res scr 19 d M 4 [some (.ref xr), l1, l2] (.ref xr :: st) := ab_o_aload_n (ab_dc hc19 dX1_payOwn_3) rfl
theorem q19_4 {v0 : Nat} : ab_res scr 19 d M 4 [l0, l1, l2] (.ref v0 :: st) = (ab_gF ab_L0 M v0 1 0).bind fun v => ab_res scr 19 d M 7 [l0, l1, l2] (v :: st) := ab_o_getfield (ab_dc hc19 dX1_payOwn_4) hk19 lk_fl_1_58
theorem q19_7 {v0 : Nat} : ab_res scr 19 d M 7 [l0, l1, l2] (.ref v0 :: st) = (ab_gF ab_L0 M v0 4 3).bind fun v => ab_res scr 19 d M 10 [l0, l1, l2] (v :: st) := ab_o_getfield (ab_dc hc19 dX1_payOwn_7) hk19 lk_fl_1_64
theorem q19_10 {v0 : Int32} {v1 : Int32} : ab_res scr 19 d M 10 [l0, l1, l2] (.int v0 :: .int v1 :: st) = if v0 ≤ v1 then ab_res scr 19 d M 52 [l0, l1, l2] (st) else ab_res scr 19 d M 13 [l0, l1, l2] (st) := ab_o_br2 (off := 42) (ab_dc hc19 dX1_payOwn_10) (by decide) rfl rfl
theorem q19_13 {x : Int32} : ab_res scr 19 d M 13 [l0, l1, some (.int x)] (st) = ab_res scr 19 d M 14 [l0, l1, some (.int x)] (.int x :: st) := ab_o_iload_n (ab_dc hc19 dX1_payOwn_13) rfl
theorem q19_14 {x : Int32} : ab_res scr 19 d M 14 [l0, some (.int x), l2] (st) = ab_res scr 19 d M 15 [l0, some (.int x), l2] (.int x :: st) := ab_o_iload_n (ab_dc hc19 dX1_payOwn_14) rfl
theorem q19_15 {v0 : Int32} {v1 : Int32} : ab_res scr 19 2 M 15 [l0, l1, l2] ([.int v0, .int v1]) = (ab_ms scr 112 [.int v1, .int v0] M).bind fun o => ab_res scr 19 2 o.1 18 [l0, l1, l2] (ab_pr o.2 []) := ab_o_static (ab_dc hc19 dX1_payOwn_15) hk19 lk_ca_1_117 hm112 (Nat.le_of_ble_eq_true rfl) rfl rfl rfl rfl rfl
theorem q19_18 {v0 : Int32} : ab_res scr 19 d M 18 [l0, l1, l2] (.int v0 :: st) = if v0 = 0 then ab_res scr 19 d M 46 [l0, l1, l2] (st) else ab_res scr 19 d M 21 [l0, l1, l2] (st) := ab_o_br2 (off := 28) (ab_dc hc19 dX1_payOwn_18) (by decide) rfl rfl
theorem q19_21 {xr : Nat} : ab_res scr 19 d M 21 [some (.ref xr), l1, l2] (st) = ab_res scr 19 d M 22 [some (.ref xr), l1, l2] (.ref xr :: st) := ab_o_aload_n (ab_dc hc19 dX1_payOwn_21) rfl
theorem q19_22 {v0 : Nat} : ab_res scr 19 d M 22 [l0, l1, l2] (.ref v0 :: st) = (ab_gF ab_L0 M v0 1 1).bind fun v => ab_res scr 19 d M 25 [l0, l1, l2] (v :: st) := ab_o_getfield (ab_dc hc19 dX1_payOwn_22) hk19 lk_fl_1_11
theorem q19_25 {x : Int32} : ab_res scr 19 d M 25 [l0, l1, some (.int x)] (st) = ab_res scr 19 d M 26 [l0, l1, some (.int x)] (.int x :: st) := ab_o_iload_n (ab_dc hc19 dX1_payOwn_25) rfl
theorem q19_26 {v0 : Int32} {v1 : Nat} : ab_res scr 19 d M 26 [l0, l1, l2] (.int v0 :: .ref v1 :: st) = (ab_qe v1 v0).bind fun v => ab_res scr 19 d M 27 [l0, l1, l2] (v :: st) := ab_o_aaload (ab_dc hc19 dX1_payOwn_26)
theorem q19_27 {v0 : Nat} : ab_res scr 19 d M 27 [l0, l1, l2] (.ref v0 :: st) = ab_res scr 19 d M 28 [l0, l1, l2] (.ref v0 :: .ref v0 :: st) := ab_xg (ab_dc hc19 dX1_payOwn_27) rfl rfl
theorem q19_28 {v0 : Nat} : ab_res scr 19 d M 28 [l0, l1, l2] (.ref v0 :: st) = (ab_gF ab_L0 M v0 7 2).bind fun v => ab_res scr 19 d M 31 [l0, l1, l2] (v :: st) := ab_o_getfield (ab_dc hc19 dX1_payOwn_28) hk19 lk_fl_1_184
theorem q19_31 {xr : Nat} : ab_res scr 19 d M 31 [some (.ref xr), l1, l2] (st) = ab_res scr 19 d M 32 [some (.ref xr), l1, l2] (.ref xr :: st) := ab_o_aload_n (ab_dc hc19 dX1_payOwn_31) rfl
theorem q19_32 {v0 : Nat} : ab_res scr 19 d M 32 [l0, l1, l2] (.ref v0 :: st) = (ab_gF ab_L0 M v0 1 0).bind fun v => ab_res scr 19 d M 35 [l0, l1, l2] (v :: st) := ab_o_getfield (ab_dc hc19 dX1_payOwn_32) hk19 lk_fl_1_58
theorem q19_35 {v0 : Nat} : ab_res scr 19 d M 35 [l0, l1, l2] (.ref v0 :: st) = (ab_gF ab_L0 M v0 4 0).bind fun v => ab_res scr 19 d M 38 [l0, l1, l2] (v :: st) := ab_o_getfield (ab_dc hc19 dX1_payOwn_35) hk19 lk_fl_1_67
theorem q19_38 : ab_res scr 19 d M 38 [l0, l1, l2] (st) = ab_res scr 19 d M 39 [l0, l1, l2] (.int 2 :: st) := (ab_o_iconst (ab_dc hc19 dX1_payOwn_38)).trans (by rw [ki_iconst_2])
theorem q19_39 {v0 : Int32} {v1 : Nat} : ab_res scr 19 d M 39 [l0, l1, l2] (.int v0 :: .ref v1 :: st) = (ab_qe v1 v0).bind fun v => ab_res scr 19 d M 40 [l0, l1, l2] (v :: st) := ab_o_aaload (ab_dc hc19 dX1_payOwn_39)
theorem q19_40 {x : Int32} : ab_res scr 19 d M 40 [l0, l1, some (.int x)] (st) = ab_res scr 19 d M 41 [l0, l1, some (.int x)] (.int x :: st) := ab_o_iload_n (ab_dc hc19 dX1_payOwn_40) rfl
theorem q19_41 {v0 : Int32} {v1 : Nat} : ab_res scr 19 d M 41 [l0, l1, l2] (.int v0 :: .ref v1 :: st) = (ab_ald scr ab_L0 M v1 .int v0).bind fun v => ab_res scr 19 d M 42 [l0, l1, l2] (.int v :: st) := ab_o_iaload (ab_dc hc19 dX1_payOwn_41)
theorem q19_42 {v0 : Int32} {v1 : Int32} : ab_res scr 19 d M 42 [l0, l1, l2] (.int v0 :: .int v1 :: st) = ab_res scr 19 d M 43 [l0, l1, l2] (.int (v1 + v0) :: st) := ab_xg (ab_dc hc19 dX1_payOwn_42) rfl rfl
theorem q19_43 {v0 : Int32} {v1 : Nat} (hp : (ab_pt v1 7 2 v0 = true) = True) : ab_res scr 19 d M 43 [l0, l1, l2] (.int v0 :: .ref v1 :: st) = ab_res scr 19 d (ab_up M v1 2 v0) 46 [l0, l1, l2] (st) := ab_o_putfield (ab_dc hc19 dX1_payOwn_43) hk19 lk_fl_1_184 (of_eq_true hp)
theorem q19_46 {x : Int32} : ab_res scr 19 d M 46 [l0, l1, some (.int x)] (st) = ab_res scr 19 d M 49 [l0, ab_nl l1, some (.int (x + 1))] (st) := (ab_o_iinc (k := 2) (ab_dc hc19 dX1_payOwn_46) hn19 (by decide) rfl).trans (by rw [ki_iconst_1]; exact ab_kl1 [l0] _ l1 rfl rfl)
theorem q19_49 : ab_res scr 19 d M 49 [l0, l1, l2] (st) = ab_res scr 19 d M 2 [l0, l1, l2] (st) := ab_o_goto (ab_dc hc19 dX1_payOwn_49) (by decide)
theorem q19_52 : ab_res scr 19 d M 52 [l0, l1, l2] ([]) = some (M, none) := ab_o_return (ab_dc hc19 dX1_payOwn_52) hr19
end Q19
theorem hc20 : ab_code 20 = cX1_pay := rfl
theorem hn20 : ab_nL 20 = 3 := rfl
theorem hk20 : ab_ky 20 = 1 := rfl
theorem hr20 : ab_ret 20 = none := rfl
section Q20
variable {scr : Option (List Int32)} {d : Nat} {M : ab_M} {st : List Value} {l0 l1 l2 : Option Value}
theorem q20_0 {xr : Nat} : ab_res scr 20 d M 0 [some (.ref xr), l1, l2] (st) = ab_res scr 20 d M 1 [some (.ref xr), l1, l2] (.ref xr :: st) := ab_o_aload_n (ab_dc hc20 dX1_pay_0) rfl
theorem q20_1 {v0 : Nat} : ab_res scr 20 d M 1 [l0, l1, l2] (.ref v0 :: st) = (ab_gF ab_L0 M v0 1 1).bind fun v => ab_res scr 20 d M 4 [l0, l1, l2] (v :: st) := ab_o_getfield (ab_dc hc20 dX1_pay_1) hk20 lk_fl_1_11
theorem q20_4 {x : Int32} : ab_res scr 20 d M 4 [l0, some (.int x), l2] (st) = ab_res scr 20 d M 5 [l0, some (.int x), l2] (.int x :: st) := ab_o_iload_n (ab_dc hc20 dX1_pay_4) rfl
theorem q20_5 {v0 : Int32} {v1 : Nat} : ab_res scr 20 d M 5 [l0, l1, l2] (.int v0 :: .ref v1 :: st) = (ab_qe v1 v0).bind fun v => ab_res scr 20 d M 6 [l0, l1, l2] (v :: st) := ab_o_aaload (ab_dc hc20 dX1_pay_5)
theorem q20_6 {v0 : Nat} : ab_res scr 20 d M 6 [l0, l1, l2] (.ref v0 :: st) = ab_res scr 20 d M 7 [l0, l1, l2] (.ref v0 :: .ref v0 :: st) := ab_xg (ab_dc hc20 dX1_pay_6) rfl rfl
theorem q20_7 {v0 : Nat} : ab_res scr 20 d M 7 [l0, l1, l2] (.ref v0 :: st) = (ab_gF ab_L0 M v0 7 2).bind fun v => ab_res scr 20 d M 10 [l0, l1, l2] (v :: st) := ab_o_getfield (ab_dc hc20 dX1_pay_7) hk20 lk_fl_1_184
theorem q20_10 {x : Int32} : ab_res scr 20 d M 10 [l0, l1, some (.int x)] (st) = ab_res scr 20 d M 11 [l0, l1, some (.int x)] (.int x :: st) := ab_o_iload_n (ab_dc hc20 dX1_pay_10) rfl
theorem q20_11 {v0 : Int32} {v1 : Int32} : ab_res scr 20 d M 11 [l0, l1, l2] (.int v0 :: .int v1 :: st) = ab_res scr 20 d M 12 [l0, l1, l2] (.int (v1 + v0) :: st) := ab_xg (ab_dc hc20 dX1_pay_11) rfl rfl
theorem q20_12 {v0 : Int32} {v1 : Nat} (hp : (ab_pt v1 7 2 v0 = true) = True) : ab_res scr 20 d M 12 [l0, l1, l2] (.int v0 :: .ref v1 :: st) = ab_res scr 20 d (ab_up M v1 2 v0) 15 [l0, l1, l2] (st) := ab_o_putfield (ab_dc hc20 dX1_pay_12) hk20 lk_fl_1_184 (of_eq_true hp)
theorem q20_15 {xr : Nat} : ab_res scr 20 d M 15 [some (.ref xr), l1, l2] (st) = ab_res scr 20 d M 16 [some (.ref xr), l1, l2] (.ref xr :: st) := ab_o_aload_n (ab_dc hc20 dX1_pay_15) rfl
theorem q20_16 {v0 : Nat} : ab_res scr 20 d M 16 [l0, l1, l2] (.ref v0 :: st) = (ab_gF ab_L0 M v0 1 1).bind fun v => ab_res scr 20 d M 19 [l0, l1, l2] (v :: st) := ab_o_getfield (ab_dc hc20 dX1_pay_16) hk20 lk_fl_1_11
theorem q20_19 {x : Int32} : ab_res scr 20 d M 19 [l0, some (.int x), l2] (st) = ab_res scr 20 d M 20 [l0, some (.int x), l2] (.int x :: st) := ab_o_iload_n (ab_dc hc20 dX1_pay_19) rfl
theorem q20_20 {v0 : Int32} {v1 : Nat} : ab_res scr 20 d M 20 [l0, l1, l2] (.int v0 :: .ref v1 :: st) = (ab_qe v1 v0).bind fun v => ab_res scr 20 d M 21 [l0, l1, l2] (v :: st) := ab_o_aaload (ab_dc hc20 dX1_pay_20)
theorem q20_21 {v0 : Nat} : ab_res scr 20 d M 21 [l0, l1, l2] (.ref v0 :: st) = ab_res scr 20 d M 22 [l0, l1, l2] (.ref v0 :: .ref v0 :: st) := ab_xg (ab_dc hc20 dX1_pay_21) rfl rfl
theorem q20_22 {v0 : Nat} : ab_res scr 20 d M 22 [l0, l1, l2] (.ref v0 :: st) = (ab_gF ab_L0 M v0 7 4).bind fun v => ab_res scr 20 d M 25 [l0, l1, l2] (v :: st) := ab_o_getfield (ab_dc hc20 dX1_pay_22) hk20 lk_fl_1_187
theorem q20_25 : ab_res scr 20 d M 25 [l0, l1, l2] (st) = ab_res scr 20 d M 26 [l0, l1, l2] (.int 1 :: st) := (ab_o_iconst (ab_dc hc20 dX1_pay_25)).trans (by rw [ki_iconst_1])
theorem q20_26 {v0 : Int32} {v1 : Int32} : ab_res scr 20 d M 26 [l0, l1, l2] (.int v0 :: .int v1 :: st) = ab_res scr 20 d M 27 [l0, l1, l2] (.int (v1 + v0) :: st) := ab_xg (ab_dc hc20 dX1_pay_26) rfl rfl
theorem q20_27 {v0 : Int32} {v1 : Nat} (hp : (ab_pt v1 7 4 v0 = true) = True) : ab_res scr 20 d M 27 [l0, l1, l2] (.int v0 :: .ref v1 :: st) = ab_res scr 20 d (ab_up M v1 4 v0) 30 [l0, l1, l2] (st) := ab_o_putfield (ab_dc hc20 dX1_pay_27) hk20 lk_fl_1_187 (of_eq_true hp)
theorem q20_30 {xr : Nat} : ab_res scr 20 d M 30 [some (.ref xr), l1, l2] (st) = ab_res scr 20 d M 31 [some (.ref xr), l1, l2] (.ref xr :: st) := ab_o_aload_n (ab_dc hc20 dX1_pay_30) rfl
theorem q20_31 {v0 : Nat} : ab_res scr 20 d M 31 [l0, l1, l2] (.ref v0 :: st) = (ab_gF ab_L0 M v0 1 1).bind fun v => ab_res scr 20 d M 34 [l0, l1, l2] (v :: st) := ab_o_getfield (ab_dc hc20 dX1_pay_31) hk20 lk_fl_1_11
theorem q20_34 {x : Int32} : ab_res scr 20 d M 34 [l0, some (.int x), l2] (st) = ab_res scr 20 d M 35 [l0, some (.int x), l2] (.int x :: st) := ab_o_iload_n (ab_dc hc20 dX1_pay_34) rfl
theorem q20_35 {v0 : Int32} {v1 : Nat} : ab_res scr 20 d M 35 [l0, l1, l2] (.int v0 :: .ref v1 :: st) = (ab_qe v1 v0).bind fun v => ab_res scr 20 d M 36 [l0, l1, l2] (v :: st) := ab_o_aaload (ab_dc hc20 dX1_pay_35)
theorem q20_36 {xr : Nat} : ab_res scr 20 d M 36 [some (.ref xr), l1, l2] (st) = ab_res scr 20 d M 37 [some (.ref xr), l1, l2] (.ref xr :: st) := ab_o_aload_n (ab_dc hc20 dX1_pay_36) rfl
theorem q20_37 {v0 : Nat} : ab_res scr 20 d M 37 [l0, l1, l2] (.ref v0 :: st) = (ab_gF ab_L0 M v0 1 11).bind fun v => ab_res scr 20 d M 40 [l0, l1, l2] (v :: st) := ab_o_getfield (ab_dc hc20 dX1_pay_37) hk20 lk_fl_1_49
theorem q20_40 {v0 : Int32} {v1 : Nat} (hp : (ab_pt v1 7 7 v0 = true) = True) : ab_res scr 20 d M 40 [l0, l1, l2] (.int v0 :: .ref v1 :: st) = ab_res scr 20 d (ab_up M v1 7 v0) 43 [l0, l1, l2] (st) := ab_o_putfield (ab_dc hc20 dX1_pay_40) hk20 lk_fl_1_74 (of_eq_true hp)
theorem q20_43 {xr : Nat} : ab_res scr 20 d M 43 [some (.ref xr), l1, l2] (st) = ab_res scr 20 d M 44 [some (.ref xr), l1, l2] (.ref xr :: st) := ab_o_aload_n (ab_dc hc20 dX1_pay_43) rfl
theorem q20_44 {x : Int32} : ab_res scr 20 d M 44 [l0, some (.int x), l2] (st) = ab_res scr 20 d M 45 [l0, some (.int x), l2] (.int x :: st) := ab_o_iload_n (ab_dc hc20 dX1_pay_44) rfl
theorem q20_45 {v0 : Int32} {v1 : Nat} (hp : (ab_pt v1 1 10 v0 = true) = True) : ab_res scr 20 d M 45 [l0, l1, l2] (.int v0 :: .ref v1 :: st) = ab_res scr 20 d (ab_up M v1 10 v0) 48 [l0, l1, l2] (st) := ab_o_putfield (ab_dc hc20 dX1_pay_45) hk20 lk_fl_1_46 (of_eq_true hp)
theorem q20_48 : ab_res scr 20 d M 48 [l0, l1, l2] ([]) = some (M, none) := ab_o_return (ab_dc hc20 dX1_pay_48) hr20
end Q20
theorem hc21 : ab_code 21 = cX1_greatestOut := rfl
theorem hn21 : ab_nL 21 = 3 := rfl
theorem hk21 : ab_ky 21 = 1 := rfl
theorem hr21 : ab_ret 21 = some .int := rfl
section Q21
variable {scr : Option (List Int32)} {d : Nat} {M : ab_M} {st : List Value} {l0 l1 l2 : Option Value}
theorem q21_0 : ab_res scr 21 d M 0 [l0, l1, l2] (st) = ab_res scr 21 d M 1 [l0, l1, l2] (.int 0 :: st) := (ab_o_iconst (ab_dc hc21 dX1_greatestOut_0)).trans (by rw [ki_iconst_0])
theorem q21_1 {v0 : Int32} : ab_res scr 21 d M 1 [l0, l1, l2] (.int v0 :: st) = ab_res scr 21 d M 2 [ab_nl l0, some (.int v0), l2] (st) := (ab_o_st1 (k := 1) (ab_dc hc21 dX1_greatestOut_1) (Or.inr (Or.inr (Or.inl ⟨1, rfl, rfl, rfl, ⟨_, rfl⟩⟩))) hn21 (by decide)).trans (ab_kl1 [] _ l0 rfl rfl)
theorem q21_2 : ab_res scr 21 d M 2 [l0, l1, l2] (st) = ab_res scr 21 d M 3 [l0, l1, l2] (.int 0 :: st) := (ab_o_iconst (ab_dc hc21 dX1_greatestOut_2)).trans (by rw [ki_iconst_0])
theorem q21_3 {v0 : Int32} : ab_res scr 21 d M 3 [l0, l1, l2] (.int v0 :: st) = ab_res scr 21 d M 4 [l0, ab_nl l1, some (.int v0)] (st) := (ab_o_st1 (k := 2) (ab_dc hc21 dX1_greatestOut_3) (Or.inr (Or.inr (Or.inl ⟨2, rfl, rfl, rfl, ⟨_, rfl⟩⟩))) hn21 (by decide)).trans (ab_kl1 [l0] _ l1 rfl rfl)
theorem q21_4 {x : Int32} : ab_res scr 21 d M 4 [l0, l1, some (.int x)] (st) = ab_res scr 21 d M 5 [l0, l1, some (.int x)] (.int x :: st) := ab_o_iload_n (ab_dc hc21 dX1_greatestOut_4) rfl
theorem q21_5 {xr : Nat} : ab_res scr 21 d M 5 [some (.ref xr), l1, l2] (st) = ab_res scr 21 d M 6 [some (.ref xr), l1, l2] (.ref xr :: st) := ab_o_aload_n (ab_dc hc21 dX1_greatestOut_5) rfl
theorem q21_6 {v0 : Nat} : ab_res scr 21 d M 6 [l0, l1, l2] (.ref v0 :: st) = (ab_gF ab_L0 M v0 1 0).bind fun v => ab_res scr 21 d M 9 [l0, l1, l2] (v :: st) := ab_o_getfield (ab_dc hc21 dX1_greatestOut_6) hk21 lk_fl_1_58
theorem q21_9 {v0 : Nat} : ab_res scr 21 d M 9 [l0, l1, l2] (.ref v0 :: st) = (ab_gF ab_L0 M v0 4 3).bind fun v => ab_res scr 21 d M 12 [l0, l1, l2] (v :: st) := ab_o_getfield (ab_dc hc21 dX1_greatestOut_9) hk21 lk_fl_1_64
theorem q21_12 {v0 : Int32} {v1 : Int32} : ab_res scr 21 d M 12 [l0, l1, l2] (.int v0 :: .int v1 :: st) = if v0 ≤ v1 then ab_res scr 21 d M 49 [l0, l1, l2] (st) else ab_res scr 21 d M 15 [l0, l1, l2] (st) := ab_o_br2 (off := 37) (ab_dc hc21 dX1_greatestOut_12) (by decide) rfl rfl
theorem q21_15 {x : Int32} : ab_res scr 21 d M 15 [l0, l1, some (.int x)] (st) = ab_res scr 21 d M 16 [l0, l1, some (.int x)] (.int x :: st) := ab_o_iload_n (ab_dc hc21 dX1_greatestOut_15) rfl
theorem q21_16 {xr : Nat} : ab_res scr 21 d M 16 [some (.ref xr), l1, l2] (st) = ab_res scr 21 d M 17 [some (.ref xr), l1, l2] (.ref xr :: st) := ab_o_aload_n (ab_dc hc21 dX1_greatestOut_16) rfl
theorem q21_17 {v0 : Nat} : ab_res scr 21 d M 17 [l0, l1, l2] (.ref v0 :: st) = (ab_gF ab_L0 M v0 1 12).bind fun v => ab_res scr 21 d M 20 [l0, l1, l2] (v :: st) := ab_o_getfield (ab_dc hc21 dX1_greatestOut_17) hk21 lk_fl_1_52
theorem q21_20 {v0 : Int32} {v1 : Int32} : ab_res scr 21 2 M 20 [l0, l1, l2] ([.int v0, .int v1]) = (ab_ms scr 112 [.int v1, .int v0] M).bind fun o => ab_res scr 21 2 o.1 23 [l0, l1, l2] (ab_pr o.2 []) := ab_o_static (ab_dc hc21 dX1_greatestOut_20) hk21 lk_ca_1_117 hm112 (Nat.le_of_ble_eq_true rfl) rfl rfl rfl rfl rfl
theorem q21_23 {v0 : Int32} : ab_res scr 21 d M 23 [l0, l1, l2] (.int v0 :: st) = if v0 = 0 then ab_res scr 21 d M 43 [l0, l1, l2] (st) else ab_res scr 21 d M 26 [l0, l1, l2] (st) := ab_o_br2 (off := 20) (ab_dc hc21 dX1_greatestOut_23) (by decide) rfl rfl
theorem q21_26 {x : Int32} : ab_res scr 21 d M 26 [l0, some (.int x), l2] (st) = ab_res scr 21 d M 27 [l0, some (.int x), l2] (.int x :: st) := ab_o_iload_n (ab_dc hc21 dX1_greatestOut_26) rfl
theorem q21_27 {xr : Nat} : ab_res scr 21 d M 27 [some (.ref xr), l1, l2] (st) = ab_res scr 21 d M 28 [some (.ref xr), l1, l2] (.ref xr :: st) := ab_o_aload_n (ab_dc hc21 dX1_greatestOut_27) rfl
theorem q21_28 {v0 : Nat} : ab_res scr 21 d M 28 [l0, l1, l2] (.ref v0 :: st) = (ab_gF ab_L0 M v0 1 1).bind fun v => ab_res scr 21 d M 31 [l0, l1, l2] (v :: st) := ab_o_getfield (ab_dc hc21 dX1_greatestOut_28) hk21 lk_fl_1_11
theorem q21_31 {x : Int32} : ab_res scr 21 d M 31 [l0, l1, some (.int x)] (st) = ab_res scr 21 d M 32 [l0, l1, some (.int x)] (.int x :: st) := ab_o_iload_n (ab_dc hc21 dX1_greatestOut_31) rfl
theorem q21_32 {v0 : Int32} {v1 : Nat} : ab_res scr 21 d M 32 [l0, l1, l2] (.int v0 :: .ref v1 :: st) = (ab_qe v1 v0).bind fun v => ab_res scr 21 d M 33 [l0, l1, l2] (v :: st) := ab_o_aaload (ab_dc hc21 dX1_greatestOut_32)
theorem q21_33 {v0 : Nat} {v1 : Int32} (hb : (ab_rc ab_L0 v0 = some 7) = True) : ab_res scr 21 2 M 33 [l0, l1, l2] ([.ref v0, .int v1]) = (ab_ms scr 53 [.ref v0] M).bind fun o => ab_res scr 21 2 o.1 36 [l0, l1, l2] (ab_pr o.2 [.int v1]) := ab_o_virtual (ab_dc hc21 dX1_greatestOut_33) hk21 lk_ca_1_81 hm53 (Nat.le_of_ble_eq_true rfl) rfl rfl rfl (of_eq_true hb) rfl rfl
theorem q21_36 {v0 : Int32} {v1 : Int32} : ab_res scr 21 d M 36 [l0, l1, l2] ([.int v0, .int v1]) = ab_res scr 21 d M 39 [l0, l1, l2] (.int (if 0 ≤ v0 then v0 else 0 - v0) :: [.int v1]) := ab_o_abs (ab_dc hc21 dX1_greatestOut_36) hk21 lk_cn_1_190 lk_ma_1_190 rfl
theorem q21_39 {v0 : Int32} {v1 : Int32} : ab_res scr 21 d M 39 [l0, l1, l2] ([.int v0, .int v1]) = ab_res scr 21 d M 42 [l0, l1, l2] (.int (if v1 < v0 then v0 else v1) :: []) := ab_o_max (ab_dc hc21 dX1_greatestOut_39) hk21 lk_cn_1_158 lk_ma_1_158 rfl
theorem q21_42 {v0 : Int32} : ab_res scr 21 d M 42 [l0, l1, l2] (.int v0 :: st) = ab_res scr 21 d M 43 [ab_nl l0, some (.int v0), l2] (st) := (ab_o_st1 (k := 1) (ab_dc hc21 dX1_greatestOut_42) (Or.inr (Or.inr (Or.inl ⟨1, rfl, rfl, rfl, ⟨_, rfl⟩⟩))) hn21 (by decide)).trans (ab_kl1 [] _ l0 rfl rfl)
theorem q21_43 {x : Int32} : ab_res scr 21 d M 43 [l0, l1, some (.int x)] (st) = ab_res scr 21 d M 46 [l0, ab_nl l1, some (.int (x + 1))] (st) := (ab_o_iinc (k := 2) (ab_dc hc21 dX1_greatestOut_43) hn21 (by decide) rfl).trans (by rw [ki_iconst_1]; exact ab_kl1 [l0] _ l1 rfl rfl)
theorem q21_46 : ab_res scr 21 d M 46 [l0, l1, l2] (st) = ab_res scr 21 d M 4 [l0, l1, l2] (st) := ab_o_goto (ab_dc hc21 dX1_greatestOut_46) (by decide)
theorem q21_49 {x : Int32} : ab_res scr 21 d M 49 [l0, some (.int x), l2] (st) = ab_res scr 21 d M 50 [l0, some (.int x), l2] (.int x :: st) := ab_o_iload_n (ab_dc hc21 dX1_greatestOut_49) rfl
theorem q21_50 {v0 : Int32} : ab_res scr 21 d M 50 [l0, l1, l2] ([.int v0]) = some (M, some (.int v0)) := ab_o_ireturn (ab_dc hc21 dX1_greatestOut_50) hr21 rfl
end Q21
theorem hc22 : ab_code 22 = cX1_buyerOf := rfl
theorem hn22 : ab_nL 22 = 3 := rfl
theorem hk22 : ab_ky 22 = 1 := rfl
theorem hr22 : ab_ret 22 = some .int := rfl
section Q22
variable {scr : Option (List Int32)} {d : Nat} {M : ab_M} {st : List Value} {l0 l1 l2 : Option Value}
theorem q22_0 {xr : Nat} : ab_res scr 22 d M 0 [some (.ref xr), l1, l2] (st) = ab_res scr 22 d M 1 [some (.ref xr), l1, l2] (.ref xr :: st) := ab_o_aload_n (ab_dc hc22 dX1_buyerOf_0) rfl
theorem q22_1 {x : Int32} : ab_res scr 22 d M 1 [l0, some (.int x), l2] (st) = ab_res scr 22 d M 2 [l0, some (.int x), l2] (.int x :: st) := ab_o_iload_n (ab_dc hc22 dX1_buyerOf_1) rfl
theorem q22_2 {v0 : Int32} {v1 : Nat} (hb : (ab_rc ab_L0 v1 = some 1) = True) : ab_res scr 22 4 M 2 [l0, l1, l2] ([.int v0, .ref v1]) = (ab_ms scr 23 [.ref v1, .int v0] M).bind fun o => ab_res scr 22 4 o.1 5 [l0, l1, l2] (ab_pr o.2 []) := ab_o_virtual (ab_dc hc22 dX1_buyerOf_2) hk22 lk_ca_1_193 hm23 (Nat.le_of_ble_eq_true rfl) rfl rfl rfl (of_eq_true hb) rfl rfl
theorem q22_5 {v0 : Int32} : ab_res scr 22 d M 5 [l0, l1, l2] (.int v0 :: st) = ab_res scr 22 d M 6 [l0, ab_nl l1, some (.int v0)] (st) := (ab_o_st1 (k := 2) (ab_dc hc22 dX1_buyerOf_5) (Or.inr (Or.inr (Or.inl ⟨2, rfl, rfl, rfl, ⟨_, rfl⟩⟩))) hn22 (by decide)).trans (ab_kl1 [l0] _ l1 rfl rfl)
theorem q22_6 {x : Int32} : ab_res scr 22 d M 6 [l0, l1, some (.int x)] (st) = ab_res scr 22 d M 7 [l0, l1, some (.int x)] (.int x :: st) := ab_o_iload_n (ab_dc hc22 dX1_buyerOf_6) rfl
theorem q22_7 {v0 : Int32} : ab_res scr 22 d M 7 [l0, l1, l2] (.int v0 :: st) = if ¬ v0 = 0 then ab_res scr 22 d M 13 [l0, l1, l2] (st) else ab_res scr 22 d M 10 [l0, l1, l2] (st) := ab_o_br2 (off := 6) (ab_dc hc22 dX1_buyerOf_7) (by decide) rfl rfl
theorem q22_10 : ab_res scr 22 d M 10 [l0, l1, l2] (st) = ab_res scr 22 d M 12 [l0, l1, l2] (.int (-4) :: st) := (ab_o_bipush (ab_dc hc22 dX1_buyerOf_10)).trans (by rw [ki_bipush_m4])
theorem q22_12 {v0 : Int32} : ab_res scr 22 d M 12 [l0, l1, l2] ([.int v0]) = some (M, some (.int v0)) := ab_o_ireturn (ab_dc hc22 dX1_buyerOf_12) hr22 rfl
theorem q22_13 {xr : Nat} : ab_res scr 22 d M 13 [some (.ref xr), l1, l2] (st) = ab_res scr 22 d M 14 [some (.ref xr), l1, l2] (.ref xr :: st) := ab_o_aload_n (ab_dc hc22 dX1_buyerOf_13) rfl
theorem q22_14 {v0 : Nat} : ab_res scr 22 d M 14 [l0, l1, l2] (.ref v0 :: st) = (ab_gF ab_L0 M v0 1 8).bind fun v => ab_res scr 22 d M 17 [l0, l1, l2] (v :: st) := ab_o_getfield (ab_dc hc22 dX1_buyerOf_14) hk22 lk_fl_1_39
theorem q22_52 {xr : Nat} : ab_res scr 22 d M 52 [some (.ref xr), l1, l2] (st) = ab_res scr 22 d M 53 [some (.ref xr), l1, l2] (.ref xr :: st) := ab_o_aload_n (ab_dc hc22 dX1_buyerOf_52) rfl
theorem q22_53 {x : Int32} : ab_res scr 22 d M 53 [l0, l1, some (.int x)] (st) = ab_res scr 22 d M 54 [l0, l1, some (.int x)] (.int x :: st) := ab_o_iload_n (ab_dc hc22 dX1_buyerOf_53) rfl
theorem q22_54 {v0 : Int32} {v1 : Nat} (hb : (ab_rc ab_L0 v1 = some 1) = True) : ab_res scr 22 4 M 54 [l0, l1, l2] ([.int v0, .ref v1]) = (ab_ms scr 25 [.ref v1, .int v0] M).bind fun o => ab_res scr 22 4 o.1 57 [l0, l1, l2] (ab_pr o.2 []) := ab_o_virtual (ab_dc hc22 dX1_buyerOf_54) hk22 lk_ca_1_196 hm25 (Nat.le_of_ble_eq_true rfl) rfl rfl rfl (of_eq_true hb) rfl rfl
theorem q22_57 {v0 : Int32} : ab_res scr 22 d M 57 [l0, l1, l2] ([.int v0]) = some (M, some (.int v0)) := ab_o_ireturn (ab_dc hc22 dX1_buyerOf_57) hr22 rfl
theorem q22_58 {xr : Nat} : ab_res scr 22 d M 58 [some (.ref xr), l1, l2] (st) = ab_res scr 22 d M 59 [some (.ref xr), l1, l2] (.ref xr :: st) := ab_o_aload_n (ab_dc hc22 dX1_buyerOf_58) rfl
theorem q22_59 {x : Int32} : ab_res scr 22 d M 59 [l0, l1, some (.int x)] (st) = ab_res scr 22 d M 60 [l0, l1, some (.int x)] (.int x :: st) := ab_o_iload_n (ab_dc hc22 dX1_buyerOf_59) rfl
theorem q22_60 {v0 : Int32} {v1 : Nat} (hb : (ab_rc ab_L0 v1 = some 1) = True) : ab_res scr 22 4 M 60 [l0, l1, l2] ([.int v0, .ref v1]) = (ab_ms scr 26 [.ref v1, .int v0] M).bind fun o => ab_res scr 22 4 o.1 63 [l0, l1, l2] (ab_pr o.2 []) := ab_o_virtual (ab_dc hc22 dX1_buyerOf_60) hk22 lk_ca_1_199 hm26 (Nat.le_of_ble_eq_true rfl) rfl rfl rfl (of_eq_true hb) rfl rfl
theorem q22_63 {v0 : Int32} : ab_res scr 22 d M 63 [l0, l1, l2] ([.int v0]) = some (M, some (.int v0)) := ab_o_ireturn (ab_dc hc22 dX1_buyerOf_63) hr22 rfl
theorem q22_64 {xr : Nat} : ab_res scr 22 d M 64 [some (.ref xr), l1, l2] (st) = ab_res scr 22 d M 65 [some (.ref xr), l1, l2] (.ref xr :: st) := ab_o_aload_n (ab_dc hc22 dX1_buyerOf_64) rfl
theorem q22_65 {x : Int32} : ab_res scr 22 d M 65 [l0, l1, some (.int x)] (st) = ab_res scr 22 d M 66 [l0, l1, some (.int x)] (.int x :: st) := ab_o_iload_n (ab_dc hc22 dX1_buyerOf_65) rfl
theorem q22_66 {v0 : Int32} {v1 : Nat} (hb : (ab_rc ab_L0 v1 = some 1) = True) : ab_res scr 22 4 M 66 [l0, l1, l2] ([.int v0, .ref v1]) = (ab_ms scr 27 [.ref v1, .int v0] M).bind fun o => ab_res scr 22 4 o.1 69 [l0, l1, l2] (ab_pr o.2 []) := ab_o_virtual (ab_dc hc22 dX1_buyerOf_66) hk22 lk_ca_1_202 hm27 (Nat.le_of_ble_eq_true rfl) rfl rfl rfl (of_eq_true hb) rfl rfl
theorem q22_69 {v0 : Int32} : ab_res scr 22 d M 69 [l0, l1, l2] ([.int v0]) = some (M, some (.int v0)) := ab_o_ireturn (ab_dc hc22 dX1_buyerOf_69) hr22 rfl
theorem q22_70 {xr : Nat} : ab_res scr 22 d M 70 [some (.ref xr), l1, l2] (st) = ab_res scr 22 d M 71 [some (.ref xr), l1, l2] (.ref xr :: st) := ab_o_aload_n (ab_dc hc22 dX1_buyerOf_70) rfl
theorem q22_71 {x : Int32} : ab_res scr 22 d M 71 [l0, l1, some (.int x)] (st) = ab_res scr 22 d M 72 [l0, l1, some (.int x)] (.int x :: st) := ab_o_iload_n (ab_dc hc22 dX1_buyerOf_71) rfl
theorem q22_72 {v0 : Int32} {v1 : Nat} (hb : (ab_rc ab_L0 v1 = some 1) = True) : ab_res scr 22 4 M 72 [l0, l1, l2] ([.int v0, .ref v1]) = (ab_ms scr 29 [.ref v1, .int v0] M).bind fun o => ab_res scr 22 4 o.1 75 [l0, l1, l2] (ab_pr o.2 []) := ab_o_virtual (ab_dc hc22 dX1_buyerOf_72) hk22 lk_ca_1_205 hm29 (Nat.le_of_ble_eq_true rfl) rfl rfl rfl (of_eq_true hb) rfl rfl
theorem q22_75 {v0 : Int32} : ab_res scr 22 d M 75 [l0, l1, l2] ([.int v0]) = some (M, some (.int v0)) := ab_o_ireturn (ab_dc hc22 dX1_buyerOf_75) hr22 rfl
theorem q22_76 {xr : Nat} : ab_res scr 22 d M 76 [some (.ref xr), l1, l2] (st) = ab_res scr 22 d M 77 [some (.ref xr), l1, l2] (.ref xr :: st) := ab_o_aload_n (ab_dc hc22 dX1_buyerOf_76) rfl
theorem q22_77 {x : Int32} : ab_res scr 22 d M 77 [l0, l1, some (.int x)] (st) = ab_res scr 22 d M 78 [l0, l1, some (.int x)] (.int x :: st) := ab_o_iload_n (ab_dc hc22 dX1_buyerOf_77) rfl
theorem q22_78 {v0 : Int32} {v1 : Nat} (hb : (ab_rc ab_L0 v1 = some 1) = True) : ab_res scr 22 4 M 78 [l0, l1, l2] ([.int v0, .ref v1]) = (ab_ms scr 30 [.ref v1, .int v0] M).bind fun o => ab_res scr 22 4 o.1 81 [l0, l1, l2] (ab_pr o.2 []) := ab_o_virtual (ab_dc hc22 dX1_buyerOf_78) hk22 lk_ca_1_208 hm30 (Nat.le_of_ble_eq_true rfl) rfl rfl rfl (of_eq_true hb) rfl rfl
theorem q22_81 {v0 : Int32} : ab_res scr 22 d M 81 [l0, l1, l2] ([.int v0]) = some (M, some (.int v0)) := ab_o_ireturn (ab_dc hc22 dX1_buyerOf_81) hr22 rfl
theorem q22_82 {xr : Nat} : ab_res scr 22 d M 82 [some (.ref xr), l1, l2] (st) = ab_res scr 22 d M 83 [some (.ref xr), l1, l2] (.ref xr :: st) := ab_o_aload_n (ab_dc hc22 dX1_buyerOf_82) rfl
theorem q22_83 {x : Int32} : ab_res scr 22 d M 83 [l0, l1, some (.int x)] (st) = ab_res scr 22 d M 84 [l0, l1, some (.int x)] (.int x :: st) := ab_o_iload_n (ab_dc hc22 dX1_buyerOf_83) rfl
theorem q22_84 {v0 : Int32} {v1 : Nat} (hb : (ab_rc ab_L0 v1 = some 1) = True) : ab_res scr 22 4 M 84 [l0, l1, l2] ([.int v0, .ref v1]) = (ab_ms scr 24 [.ref v1, .int v0] M).bind fun o => ab_res scr 22 4 o.1 87 [l0, l1, l2] (ab_pr o.2 []) := ab_o_virtual (ab_dc hc22 dX1_buyerOf_84) hk22 lk_ca_1_211 hm24 (Nat.le_of_ble_eq_true rfl) rfl rfl rfl (of_eq_true hb) rfl rfl
theorem q22_87 {v0 : Int32} : ab_res scr 22 d M 87 [l0, l1, l2] ([.int v0]) = some (M, some (.int v0)) := ab_o_ireturn (ab_dc hc22 dX1_buyerOf_87) hr22 rfl
end Q22
section S22_17
variable {scr : Option (List Int32)} {d : Nat} {M : ab_M} {st : List Value} {l0 l1 l2 : Option Value}
theorem q22_17 {v0 : Int32} : ab_res scr 22 d M 17 [l0, l1, l2] (.int v0 :: st) = if v0 = 1 then ab_res scr 22 d M 52 [l0, l1, l2] (st) else if v0 = 2 then ab_res scr 22 d M 58 [l0, l1, l2] (st) else if v0 = 3 then ab_res scr 22 d M 64 [l0, l1, l2] (st) else if v0 = 4 then ab_res scr 22 d M 70 [l0, l1, l2] (st) else if v0 = 5 then ab_res scr 22 d M 76 [l0, l1, l2] (st) else ab_res scr 22 d M 82 [l0, l1, l2] (st) := by
  by_cases h0 : v0 = 1
  · rw [if_pos h0, h0]
    exact ab_xg (ab_dc hc22 dX1_buyerOf_17) rfl rfl
  by_cases h1 : v0 = 2
  · rw [if_neg h0, if_pos h1, h1]
    exact ab_xg (ab_dc hc22 dX1_buyerOf_17) rfl rfl
  by_cases h2 : v0 = 3
  · rw [if_neg h0, if_neg h1, if_pos h2, h2]
    exact ab_xg (ab_dc hc22 dX1_buyerOf_17) rfl rfl
  by_cases h3 : v0 = 4
  · rw [if_neg h0, if_neg h1, if_neg h2, if_pos h3, h3]
    exact ab_xg (ab_dc hc22 dX1_buyerOf_17) rfl rfl
  by_cases h4 : v0 = 5
  · rw [if_neg h0, if_neg h1, if_neg h2, if_neg h3, if_pos h4, h4]
    exact ab_xg (ab_dc hc22 dX1_buyerOf_17) rfl rfl
  rw [if_neg h0, if_neg h1, if_neg h2, if_neg h3, if_neg h4]
  have hx : v0.toInt < 1 ∨ 5 < v0.toInt := by
    have e0 : v0.toInt ≠ 1 := fun q => h0 (Int32.toInt_inj.mp (q.trans (by decide)))
    have e1 : v0.toInt ≠ 2 := fun q => h1 (Int32.toInt_inj.mp (q.trans (by decide)))
    have e2 : v0.toInt ≠ 3 := fun q => h2 (Int32.toInt_inj.mp (q.trans (by decide)))
    have e3 : v0.toInt ≠ 4 := fun q => h3 (Int32.toInt_inj.mp (q.trans (by decide)))
    have e4 : v0.toInt ≠ 5 := fun q => h4 (Int32.toInt_inj.mp (q.trans (by decide)))
    omega
  refine ab_xg (ab_dc hc22 dX1_buyerOf_17) rfl ?_
  show (if v0.toInt < 1 ∨ 5 < v0.toInt then ab_jm ab_L0 M 17 (65) [l0, l1, l2] st else _) = _
  rw [if_pos hx]
  rfl
end S22_17
theorem hc23 : ab_code 23 = cX1_whoCanPay := rfl
theorem hn23 : ab_nL 23 = 4 := rfl
theorem hk23 : ab_ky 23 = 1 := rfl
theorem hr23 : ab_ret 23 = some .int := rfl
section Q23
variable {scr : Option (List Int32)} {d : Nat} {M : ab_M} {st : List Value} {l0 l1 l2 l3 : Option Value}
theorem q23_0 {xr : Nat} : ab_res scr 23 d M 0 [some (.ref xr), l1, l2, l3] (st) = ab_res scr 23 d M 1 [some (.ref xr), l1, l2, l3] (.ref xr :: st) := ab_o_aload_n (ab_dc hc23 dX1_whoCanPay_0) rfl
theorem q23_1 {v0 : Nat} : ab_res scr 23 d M 1 [l0, l1, l2, l3] (.ref v0 :: st) = (ab_gF ab_L0 M v0 1 0).bind fun v => ab_res scr 23 d M 4 [l0, l1, l2, l3] (v :: st) := ab_o_getfield (ab_dc hc23 dX1_whoCanPay_1) hk23 lk_fl_1_58
theorem q23_4 {xr : Nat} : ab_res scr 23 d M 4 [some (.ref xr), l1, l2, l3] (st) = ab_res scr 23 d M 5 [some (.ref xr), l1, l2, l3] (.ref xr :: st) := ab_o_aload_n (ab_dc hc23 dX1_whoCanPay_4) rfl
theorem q23_5 {v0 : Nat} : ab_res scr 23 d M 5 [l0, l1, l2, l3] (.ref v0 :: st) = (ab_gF ab_L0 M v0 1 12).bind fun v => ab_res scr 23 d M 8 [l0, l1, l2, l3] (v :: st) := ab_o_getfield (ab_dc hc23 dX1_whoCanPay_5) hk23 lk_fl_1_52
theorem q23_8 {v0 : Int32} {v1 : Nat} (hb : (ab_rc ab_L0 v1 = some 4) = True) : ab_res scr 23 2 M 8 [l0, l1, l2, l3] ([.int v0, .ref v1]) = (ab_ms scr 45 [.ref v1, .int v0] M).bind fun o => ab_res scr 23 2 o.1 11 [l0, l1, l2, l3] (ab_pr o.2 []) := ab_o_virtual (ab_dc hc23 dX1_whoCanPay_8) hk23 lk_ca_1_214 hm45 (Nat.le_of_ble_eq_true rfl) rfl rfl rfl (of_eq_true hb) rfl rfl
theorem q23_11 {v0 : Int32} : ab_res scr 23 d M 11 [l0, l1, l2, l3] (.int v0 :: st) = ab_res scr 23 d M 12 [l0, ab_nl l1, some (.int v0), l3] (st) := (ab_o_st1 (k := 2) (ab_dc hc23 dX1_whoCanPay_11) (Or.inr (Or.inr (Or.inl ⟨2, rfl, rfl, rfl, ⟨_, rfl⟩⟩))) hn23 (by decide)).trans (ab_kl1 [l0] _ l1 rfl rfl)
theorem q23_12 : ab_res scr 23 d M 12 [l0, l1, l2, l3] (st) = ab_res scr 23 d M 13 [l0, l1, l2, l3] (.int 0 :: st) := (ab_o_iconst (ab_dc hc23 dX1_whoCanPay_12)).trans (by rw [ki_iconst_0])
theorem q23_13 {v0 : Int32} : ab_res scr 23 d M 13 [l0, l1, l2, l3] (.int v0 :: st) = ab_res scr 23 d M 14 [l0, l1, ab_nl l2, some (.int v0)] (st) := (ab_o_st1 (k := 3) (ab_dc hc23 dX1_whoCanPay_13) (Or.inr (Or.inr (Or.inl ⟨3, rfl, rfl, rfl, ⟨_, rfl⟩⟩))) hn23 (by decide)).trans (ab_kl1 [l0, l1] _ l2 rfl rfl)
theorem q23_14 {x : Int32} : ab_res scr 23 d M 14 [l0, l1, l2, some (.int x)] (st) = ab_res scr 23 d M 15 [l0, l1, l2, some (.int x)] (.int x :: st) := ab_o_iload_n (ab_dc hc23 dX1_whoCanPay_14) rfl
theorem q23_15 {xr : Nat} : ab_res scr 23 d M 15 [some (.ref xr), l1, l2, l3] (st) = ab_res scr 23 d M 16 [some (.ref xr), l1, l2, l3] (.ref xr :: st) := ab_o_aload_n (ab_dc hc23 dX1_whoCanPay_15) rfl
theorem q23_16 {v0 : Nat} : ab_res scr 23 d M 16 [l0, l1, l2, l3] (.ref v0 :: st) = (ab_gF ab_L0 M v0 1 0).bind fun v => ab_res scr 23 d M 19 [l0, l1, l2, l3] (v :: st) := ab_o_getfield (ab_dc hc23 dX1_whoCanPay_16) hk23 lk_fl_1_58
theorem q23_19 {v0 : Nat} : ab_res scr 23 d M 19 [l0, l1, l2, l3] (.ref v0 :: st) = (ab_gF ab_L0 M v0 4 3).bind fun v => ab_res scr 23 d M 22 [l0, l1, l2, l3] (v :: st) := ab_o_getfield (ab_dc hc23 dX1_whoCanPay_19) hk23 lk_fl_1_64
theorem q23_22 {v0 : Int32} {v1 : Int32} : ab_res scr 23 d M 22 [l0, l1, l2, l3] (.int v0 :: .int v1 :: st) = if v0 ≤ v1 then ab_res scr 23 d M 55 [l0, l1, l2, l3] (st) else ab_res scr 23 d M 25 [l0, l1, l2, l3] (st) := ab_o_br2 (off := 33) (ab_dc hc23 dX1_whoCanPay_22) (by decide) rfl rfl
theorem q23_25 {xr : Nat} : ab_res scr 23 d M 25 [some (.ref xr), l1, l2, l3] (st) = ab_res scr 23 d M 26 [some (.ref xr), l1, l2, l3] (.ref xr :: st) := ab_o_aload_n (ab_dc hc23 dX1_whoCanPay_25) rfl
theorem q23_26 {v0 : Nat} : ab_res scr 23 d M 26 [l0, l1, l2, l3] (.ref v0 :: st) = (ab_gF ab_L0 M v0 1 9).bind fun v => ab_res scr 23 d M 29 [l0, l1, l2, l3] (v :: st) := ab_o_getfield (ab_dc hc23 dX1_whoCanPay_26) hk23 lk_fl_1_42
theorem q23_29 {v0 : Int32} : ab_res scr 23 d M 29 [l0, l1, l2, l3] (.int v0 :: st) = if v0 = 0 then ab_res scr 23 d M 49 [l0, l1, l2, l3] (st) else ab_res scr 23 d M 32 [l0, l1, l2, l3] (st) := ab_o_br2 (off := 20) (ab_dc hc23 dX1_whoCanPay_29) (by decide) rfl rfl
theorem q23_32 {xr : Nat} : ab_res scr 23 d M 32 [some (.ref xr), l1, l2, l3] (st) = ab_res scr 23 d M 33 [some (.ref xr), l1, l2, l3] (.ref xr :: st) := ab_o_aload_n (ab_dc hc23 dX1_whoCanPay_32) rfl
theorem q23_33 {x : Int32} : ab_res scr 23 d M 33 [l0, l1, l2, some (.int x)] (st) = ab_res scr 23 d M 34 [l0, l1, l2, some (.int x)] (.int x :: st) := ab_o_iload_n (ab_dc hc23 dX1_whoCanPay_33) rfl
theorem q23_34 {v0 : Int32} {v1 : Nat} (hb : (ab_rc ab_L0 v1 = some 1) = True) : ab_res scr 23 2 M 34 [l0, l1, l2, l3] ([.int v0, .ref v1]) = (ab_ms scr 31 [.ref v1, .int v0] M).bind fun o => ab_res scr 23 2 o.1 37 [l0, l1, l2, l3] (ab_pr o.2 []) := ab_o_virtual (ab_dc hc23 dX1_whoCanPay_34) hk23 lk_ca_1_164 hm31 (Nat.le_of_ble_eq_true rfl) rfl rfl rfl (of_eq_true hb) rfl rfl
theorem q23_37 {x : Int32} : ab_res scr 23 d M 37 [l0, some (.int x), l2, l3] (st) = ab_res scr 23 d M 38 [l0, some (.int x), l2, l3] (.int x :: st) := ab_o_iload_n (ab_dc hc23 dX1_whoCanPay_37) rfl
theorem q23_38 {v0 : Int32} {v1 : Int32} : ab_res scr 23 d M 38 [l0, l1, l2, l3] (.int v0 :: .int v1 :: st) = if v0 ≤ v1 then ab_res scr 23 d M 49 [l0, l1, l2, l3] (st) else ab_res scr 23 d M 41 [l0, l1, l2, l3] (st) := ab_o_br2 (off := 11) (ab_dc hc23 dX1_whoCanPay_38) (by decide) rfl rfl
theorem q23_41 {x : Int32} : ab_res scr 23 d M 41 [l0, l1, some (.int x), l3] (st) = ab_res scr 23 d M 42 [l0, l1, some (.int x), l3] (.int x :: st) := ab_o_iload_n (ab_dc hc23 dX1_whoCanPay_41) rfl
theorem q23_42 : ab_res scr 23 d M 42 [l0, l1, l2, l3] (st) = ab_res scr 23 d M 43 [l0, l1, l2, l3] (.int 1 :: st) := (ab_o_iconst (ab_dc hc23 dX1_whoCanPay_42)).trans (by rw [ki_iconst_1])
theorem q23_43 {x : Int32} : ab_res scr 23 d M 43 [l0, l1, l2, some (.int x)] (st) = ab_res scr 23 d M 44 [l0, l1, l2, some (.int x)] (.int x :: st) := ab_o_iload_n (ab_dc hc23 dX1_whoCanPay_43) rfl
theorem q23_44 {v0 : Int32} {v1 : Int32} : ab_res scr 23 d M 44 [l0, l1, l2, l3] (.int v0 :: .int v1 :: st) = ab_res scr 23 d M 45 [l0, l1, l2, l3] (.int (v1 <<< (v0 &&& 31)) :: st) := ab_xg (ab_dc hc23 dX1_whoCanPay_44) rfl rfl
theorem q23_45 : ab_res scr 23 d M 45 [l0, l1, l2, l3] (st) = ab_res scr 23 d M 46 [l0, l1, l2, l3] (.int (-1) :: st) := (ab_o_iconst (ab_dc hc23 dX1_whoCanPay_45)).trans (by rw [ki_iconst_m1])
theorem q23_46 {v0 : Int32} {v1 : Int32} : ab_res scr 23 d M 46 [l0, l1, l2, l3] (.int v0 :: .int v1 :: st) = ab_res scr 23 d M 47 [l0, l1, l2, l3] (.int (v1 ^^^ v0) :: st) := ab_xg (ab_dc hc23 dX1_whoCanPay_46) rfl rfl
theorem q23_47 {v0 : Int32} {v1 : Int32} : ab_res scr 23 d M 47 [l0, l1, l2, l3] (.int v0 :: .int v1 :: st) = ab_res scr 23 d M 48 [l0, l1, l2, l3] (.int (v1 &&& v0) :: st) := ab_xg (ab_dc hc23 dX1_whoCanPay_47) rfl rfl
theorem q23_48 {v0 : Int32} : ab_res scr 23 d M 48 [l0, l1, l2, l3] (.int v0 :: st) = ab_res scr 23 d M 49 [l0, ab_nl l1, some (.int v0), l3] (st) := (ab_o_st1 (k := 2) (ab_dc hc23 dX1_whoCanPay_48) (Or.inr (Or.inr (Or.inl ⟨2, rfl, rfl, rfl, ⟨_, rfl⟩⟩))) hn23 (by decide)).trans (ab_kl1 [l0] _ l1 rfl rfl)
theorem q23_49 {x : Int32} : ab_res scr 23 d M 49 [l0, l1, l2, some (.int x)] (st) = ab_res scr 23 d M 52 [l0, l1, ab_nl l2, some (.int (x + 1))] (st) := (ab_o_iinc (k := 3) (ab_dc hc23 dX1_whoCanPay_49) hn23 (by decide) rfl).trans (by rw [ki_iconst_1]; exact ab_kl1 [l0, l1] _ l2 rfl rfl)
theorem q23_52 : ab_res scr 23 d M 52 [l0, l1, l2, l3] (st) = ab_res scr 23 d M 14 [l0, l1, l2, l3] (st) := ab_o_goto (ab_dc hc23 dX1_whoCanPay_52) (by decide)
theorem q23_55 {x : Int32} : ab_res scr 23 d M 55 [l0, l1, some (.int x), l3] (st) = ab_res scr 23 d M 56 [l0, l1, some (.int x), l3] (.int x :: st) := ab_o_iload_n (ab_dc hc23 dX1_whoCanPay_55) rfl
theorem q23_56 {v0 : Int32} : ab_res scr 23 d M 56 [l0, l1, l2, l3] ([.int v0]) = some (M, some (.int v0)) := ab_o_ireturn (ab_dc hc23 dX1_whoCanPay_56) hr23 rfl
end Q23
theorem hc24 : ab_code 24 = cX1_inTurn := rfl
theorem hn24 : ab_nL 24 = 4 := rfl
theorem hk24 : ab_ky 24 = 1 := rfl
theorem hr24 : ab_ret 24 = some .int := rfl
section Q24
variable {scr : Option (List Int32)} {d : Nat} {M : ab_M} {st : List Value} {l0 l1 l2 l3 : Option Value}
theorem q24_0 : ab_res scr 24 d M 0 [l0, l1, l2, l3] (st) = ab_res scr 24 d M 1 [l0, l1, l2, l3] (.int 1 :: st) := (ab_o_iconst (ab_dc hc24 dX1_inTurn_0)).trans (by rw [ki_iconst_1])
theorem q24_1 {v0 : Int32} : ab_res scr 24 d M 1 [l0, l1, l2, l3] (.int v0 :: st) = ab_res scr 24 d M 2 [l0, ab_nl l1, some (.int v0), l3] (st) := (ab_o_st1 (k := 2) (ab_dc hc24 dX1_inTurn_1) (Or.inr (Or.inr (Or.inl ⟨2, rfl, rfl, rfl, ⟨_, rfl⟩⟩))) hn24 (by decide)).trans (ab_kl1 [l0] _ l1 rfl rfl)
theorem q24_2 {x : Int32} : ab_res scr 24 d M 2 [l0, l1, some (.int x), l3] (st) = ab_res scr 24 d M 3 [l0, l1, some (.int x), l3] (.int x :: st) := ab_o_iload_n (ab_dc hc24 dX1_inTurn_2) rfl
theorem q24_3 : ab_res scr 24 d M 3 [l0, l1, l2, l3] (st) = ab_res scr 24 d M 5 [l0, l1, l2, l3] (.int 8 :: st) := (ab_o_bipush (ab_dc hc24 dX1_inTurn_3)).trans (by rw [ki_bipush_8])
theorem q24_5 {v0 : Int32} {v1 : Int32} : ab_res scr 24 d M 5 [l0, l1, l2, l3] (.int v0 :: .int v1 :: st) = if v0 < v1 then ab_res scr 24 d M 34 [l0, l1, l2, l3] (st) else ab_res scr 24 d M 8 [l0, l1, l2, l3] (st) := ab_o_br2 (off := 29) (ab_dc hc24 dX1_inTurn_5) (by decide) rfl rfl
theorem q24_8 {xr : Nat} : ab_res scr 24 d M 8 [some (.ref xr), l1, l2, l3] (st) = ab_res scr 24 d M 9 [some (.ref xr), l1, l2, l3] (.ref xr :: st) := ab_o_aload_n (ab_dc hc24 dX1_inTurn_8) rfl
theorem q24_9 {v0 : Nat} : ab_res scr 24 d M 9 [l0, l1, l2, l3] (.ref v0 :: st) = (ab_gF ab_L0 M v0 1 10).bind fun v => ab_res scr 24 d M 12 [l0, l1, l2, l3] (v :: st) := ab_o_getfield (ab_dc hc24 dX1_inTurn_9) hk24 lk_fl_1_46
theorem q24_12 {x : Int32} : ab_res scr 24 d M 12 [l0, l1, some (.int x), l3] (st) = ab_res scr 24 d M 13 [l0, l1, some (.int x), l3] (.int x :: st) := ab_o_iload_n (ab_dc hc24 dX1_inTurn_12) rfl
theorem q24_13 {v0 : Int32} {v1 : Int32} : ab_res scr 24 d M 13 [l0, l1, l2, l3] (.int v0 :: .int v1 :: st) = ab_res scr 24 d M 14 [l0, l1, l2, l3] (.int (v1 + v0) :: st) := ab_xg (ab_dc hc24 dX1_inTurn_13) rfl rfl
theorem q24_14 : ab_res scr 24 d M 14 [l0, l1, l2, l3] (st) = ab_res scr 24 d M 16 [l0, l1, l2, l3] (.int 8 :: st) := (ab_o_bipush (ab_dc hc24 dX1_inTurn_14)).trans (by rw [ki_bipush_8])
theorem q24_16 {v0 : Int32} {v1 : Int32} : ab_res scr 24 d M 16 [l0, l1, l2, l3] (.int v0 :: .int v1 :: st) = if v0 = 0 then none else ab_res scr 24 d M 17 [l0, l1, l2, l3] (.int (v1 - v1 / v0 * v0) :: st) := ab_o_div (ab_dc hc24 dX1_inTurn_16) (Or.inr ⟨rfl, rfl⟩)
theorem q24_17 {v0 : Int32} : ab_res scr 24 d M 17 [l0, l1, l2, l3] (.int v0 :: st) = ab_res scr 24 d M 18 [l0, l1, ab_nl l2, some (.int v0)] (st) := (ab_o_st1 (k := 3) (ab_dc hc24 dX1_inTurn_17) (Or.inr (Or.inr (Or.inl ⟨3, rfl, rfl, rfl, ⟨_, rfl⟩⟩))) hn24 (by decide)).trans (ab_kl1 [l0, l1] _ l2 rfl rfl)
theorem q24_18 {x : Int32} : ab_res scr 24 d M 18 [l0, l1, l2, some (.int x)] (st) = ab_res scr 24 d M 19 [l0, l1, l2, some (.int x)] (.int x :: st) := ab_o_iload_n (ab_dc hc24 dX1_inTurn_18) rfl
theorem q24_19 {x : Int32} : ab_res scr 24 d M 19 [l0, some (.int x), l2, l3] (st) = ab_res scr 24 d M 20 [l0, some (.int x), l2, l3] (.int x :: st) := ab_o_iload_n (ab_dc hc24 dX1_inTurn_19) rfl
theorem q24_20 {v0 : Int32} {v1 : Int32} : ab_res scr 24 2 M 20 [l0, l1, l2, l3] ([.int v0, .int v1]) = (ab_ms scr 112 [.int v1, .int v0] M).bind fun o => ab_res scr 24 2 o.1 23 [l0, l1, l2, l3] (ab_pr o.2 []) := ab_o_static (ab_dc hc24 dX1_inTurn_20) hk24 lk_ca_1_117 hm112 (Nat.le_of_ble_eq_true rfl) rfl rfl rfl rfl rfl
theorem q24_23 {v0 : Int32} : ab_res scr 24 d M 23 [l0, l1, l2, l3] (.int v0 :: st) = if v0 = 0 then ab_res scr 24 d M 28 [l0, l1, l2, l3] (st) else ab_res scr 24 d M 26 [l0, l1, l2, l3] (st) := ab_o_br2 (off := 5) (ab_dc hc24 dX1_inTurn_23) (by decide) rfl rfl
theorem q24_26 {x : Int32} : ab_res scr 24 d M 26 [l0, l1, l2, some (.int x)] (st) = ab_res scr 24 d M 27 [l0, l1, l2, some (.int x)] (.int x :: st) := ab_o_iload_n (ab_dc hc24 dX1_inTurn_26) rfl
theorem q24_27 {v0 : Int32} : ab_res scr 24 d M 27 [l0, l1, l2, l3] ([.int v0]) = some (M, some (.int v0)) := ab_o_ireturn (ab_dc hc24 dX1_inTurn_27) hr24 rfl
theorem q24_28 {x : Int32} : ab_res scr 24 d M 28 [l0, l1, some (.int x), l3] (st) = ab_res scr 24 d M 31 [l0, ab_nl l1, some (.int (x + 1)), l3] (st) := (ab_o_iinc (k := 2) (ab_dc hc24 dX1_inTurn_28) hn24 (by decide) rfl).trans (by rw [ki_iconst_1]; exact ab_kl1 [l0] _ l1 rfl rfl)
theorem q24_31 : ab_res scr 24 d M 31 [l0, l1, l2, l3] (st) = ab_res scr 24 d M 2 [l0, l1, l2, l3] (st) := ab_o_goto (ab_dc hc24 dX1_inTurn_31) (by decide)
theorem q24_34 : ab_res scr 24 d M 34 [l0, l1, l2, l3] (st) = ab_res scr 24 d M 36 [l0, l1, l2, l3] (.int (-4) :: st) := (ab_o_bipush (ab_dc hc24 dX1_inTurn_34)).trans (by rw [ki_bipush_m4])
theorem q24_36 {v0 : Int32} : ab_res scr 24 d M 36 [l0, l1, l2, l3] ([.int v0]) = some (M, some (.int v0)) := ab_o_ireturn (ab_dc hc24 dX1_inTurn_36) hr24 rfl
end Q24
theorem hc25 : ab_code 25 = cX1_leastOut := rfl
theorem hn25 : ab_nL 25 = 4 := rfl
theorem hk25 : ab_ky 25 = 1 := rfl
theorem hr25 : ab_ret 25 = some .int := rfl
section Q25
variable {scr : Option (List Int32)} {d : Nat} {M : ab_M} {st : List Value} {l0 l1 l2 l3 : Option Value}
theorem q25_0 : ab_res scr 25 d M 0 [l0, l1, l2, l3] (st) = ab_res scr 25 d M 2 [l0, l1, l2, l3] (.int (-4) :: st) := (ab_o_bipush (ab_dc hc25 dX1_leastOut_0)).trans (by rw [ki_bipush_m4])
theorem q25_2 {v0 : Int32} : ab_res scr 25 d M 2 [l0, l1, l2, l3] (.int v0 :: st) = ab_res scr 25 d M 3 [l0, ab_nl l1, some (.int v0), l3] (st) := (ab_o_st1 (k := 2) (ab_dc hc25 dX1_leastOut_2) (Or.inr (Or.inr (Or.inl ⟨2, rfl, rfl, rfl, ⟨_, rfl⟩⟩))) hn25 (by decide)).trans (ab_kl1 [l0] _ l1 rfl rfl)
theorem q25_3 : ab_res scr 25 d M 3 [l0, l1, l2, l3] (st) = ab_res scr 25 d M 4 [l0, l1, l2, l3] (.int 0 :: st) := (ab_o_iconst (ab_dc hc25 dX1_leastOut_3)).trans (by rw [ki_iconst_0])
theorem q25_4 {v0 : Int32} : ab_res scr 25 d M 4 [l0, l1, l2, l3] (.int v0 :: st) = ab_res scr 25 d M 5 [l0, l1, ab_nl l2, some (.int v0)] (st) := (ab_o_st1 (k := 3) (ab_dc hc25 dX1_leastOut_4) (Or.inr (Or.inr (Or.inl ⟨3, rfl, rfl, rfl, ⟨_, rfl⟩⟩))) hn25 (by decide)).trans (ab_kl1 [l0, l1] _ l2 rfl rfl)
theorem q25_5 {x : Int32} : ab_res scr 25 d M 5 [l0, l1, l2, some (.int x)] (st) = ab_res scr 25 d M 6 [l0, l1, l2, some (.int x)] (.int x :: st) := ab_o_iload_n (ab_dc hc25 dX1_leastOut_5) rfl
theorem q25_6 {xr : Nat} : ab_res scr 25 d M 6 [some (.ref xr), l1, l2, l3] (st) = ab_res scr 25 d M 7 [some (.ref xr), l1, l2, l3] (.ref xr :: st) := ab_o_aload_n (ab_dc hc25 dX1_leastOut_6) rfl
theorem q25_7 {v0 : Nat} : ab_res scr 25 d M 7 [l0, l1, l2, l3] (.ref v0 :: st) = (ab_gF ab_L0 M v0 1 0).bind fun v => ab_res scr 25 d M 10 [l0, l1, l2, l3] (v :: st) := ab_o_getfield (ab_dc hc25 dX1_leastOut_7) hk25 lk_fl_1_58
theorem q25_10 {v0 : Nat} : ab_res scr 25 d M 10 [l0, l1, l2, l3] (.ref v0 :: st) = (ab_gF ab_L0 M v0 4 3).bind fun v => ab_res scr 25 d M 13 [l0, l1, l2, l3] (v :: st) := ab_o_getfield (ab_dc hc25 dX1_leastOut_10) hk25 lk_fl_1_64
theorem q25_13 {v0 : Int32} {v1 : Int32} : ab_res scr 25 d M 13 [l0, l1, l2, l3] (.int v0 :: .int v1 :: st) = if v0 ≤ v1 then ab_res scr 25 d M 59 [l0, l1, l2, l3] (st) else ab_res scr 25 d M 16 [l0, l1, l2, l3] (st) := ab_o_br2 (off := 46) (ab_dc hc25 dX1_leastOut_13) (by decide) rfl rfl
theorem q25_16 {x : Int32} : ab_res scr 25 d M 16 [l0, l1, l2, some (.int x)] (st) = ab_res scr 25 d M 17 [l0, l1, l2, some (.int x)] (.int x :: st) := ab_o_iload_n (ab_dc hc25 dX1_leastOut_16) rfl
theorem q25_17 {x : Int32} : ab_res scr 25 d M 17 [l0, some (.int x), l2, l3] (st) = ab_res scr 25 d M 18 [l0, some (.int x), l2, l3] (.int x :: st) := ab_o_iload_n (ab_dc hc25 dX1_leastOut_17) rfl
theorem q25_18 {v0 : Int32} {v1 : Int32} : ab_res scr 25 2 M 18 [l0, l1, l2, l3] ([.int v0, .int v1]) = (ab_ms scr 112 [.int v1, .int v0] M).bind fun o => ab_res scr 25 2 o.1 21 [l0, l1, l2, l3] (ab_pr o.2 []) := ab_o_static (ab_dc hc25 dX1_leastOut_18) hk25 lk_ca_1_117 hm112 (Nat.le_of_ble_eq_true rfl) rfl rfl rfl rfl rfl
theorem q25_21 {v0 : Int32} : ab_res scr 25 d M 21 [l0, l1, l2, l3] (.int v0 :: st) = if v0 = 0 then ab_res scr 25 d M 53 [l0, l1, l2, l3] (st) else ab_res scr 25 d M 24 [l0, l1, l2, l3] (st) := ab_o_br2 (off := 32) (ab_dc hc25 dX1_leastOut_21) (by decide) rfl rfl
theorem q25_24 {x : Int32} : ab_res scr 25 d M 24 [l0, l1, some (.int x), l3] (st) = ab_res scr 25 d M 25 [l0, l1, some (.int x), l3] (.int x :: st) := ab_o_iload_n (ab_dc hc25 dX1_leastOut_24) rfl
theorem q25_25 : ab_res scr 25 d M 25 [l0, l1, l2, l3] (st) = ab_res scr 25 d M 27 [l0, l1, l2, l3] (.int (-4) :: st) := (ab_o_bipush (ab_dc hc25 dX1_leastOut_25)).trans (by rw [ki_bipush_m4])
theorem q25_27 {v0 : Int32} {v1 : Int32} : ab_res scr 25 d M 27 [l0, l1, l2, l3] (.int v0 :: .int v1 :: st) = if v1 = v0 then ab_res scr 25 d M 51 [l0, l1, l2, l3] (st) else ab_res scr 25 d M 30 [l0, l1, l2, l3] (st) := ab_o_br2 (off := 24) (ab_dc hc25 dX1_leastOut_27) (by decide) rfl rfl
theorem q25_30 {xr : Nat} : ab_res scr 25 d M 30 [some (.ref xr), l1, l2, l3] (st) = ab_res scr 25 d M 31 [some (.ref xr), l1, l2, l3] (.ref xr :: st) := ab_o_aload_n (ab_dc hc25 dX1_leastOut_30) rfl
theorem q25_31 {v0 : Nat} : ab_res scr 25 d M 31 [l0, l1, l2, l3] (.ref v0 :: st) = (ab_gF ab_L0 M v0 1 1).bind fun v => ab_res scr 25 d M 34 [l0, l1, l2, l3] (v :: st) := ab_o_getfield (ab_dc hc25 dX1_leastOut_31) hk25 lk_fl_1_11
theorem q25_34 {x : Int32} : ab_res scr 25 d M 34 [l0, l1, l2, some (.int x)] (st) = ab_res scr 25 d M 35 [l0, l1, l2, some (.int x)] (.int x :: st) := ab_o_iload_n (ab_dc hc25 dX1_leastOut_34) rfl
theorem q25_35 {v0 : Int32} {v1 : Nat} : ab_res scr 25 d M 35 [l0, l1, l2, l3] (.int v0 :: .ref v1 :: st) = (ab_qe v1 v0).bind fun v => ab_res scr 25 d M 36 [l0, l1, l2, l3] (v :: st) := ab_o_aaload (ab_dc hc25 dX1_leastOut_35)
theorem q25_36 {v0 : Nat} (hb : (ab_rc ab_L0 v0 = some 7) = True) : ab_res scr 25 2 M 36 [l0, l1, l2, l3] ([.ref v0]) = (ab_ms scr 53 [.ref v0] M).bind fun o => ab_res scr 25 2 o.1 39 [l0, l1, l2, l3] (ab_pr o.2 []) := ab_o_virtual (ab_dc hc25 dX1_leastOut_36) hk25 lk_ca_1_81 hm53 (Nat.le_of_ble_eq_true rfl) rfl rfl rfl (of_eq_true hb) rfl rfl
theorem q25_39 {xr : Nat} : ab_res scr 25 d M 39 [some (.ref xr), l1, l2, l3] (st) = ab_res scr 25 d M 40 [some (.ref xr), l1, l2, l3] (.ref xr :: st) := ab_o_aload_n (ab_dc hc25 dX1_leastOut_39) rfl
theorem q25_40 {v0 : Nat} : ab_res scr 25 d M 40 [l0, l1, l2, l3] (.ref v0 :: st) = (ab_gF ab_L0 M v0 1 1).bind fun v => ab_res scr 25 d M 43 [l0, l1, l2, l3] (v :: st) := ab_o_getfield (ab_dc hc25 dX1_leastOut_40) hk25 lk_fl_1_11
theorem q25_43 {x : Int32} : ab_res scr 25 d M 43 [l0, l1, some (.int x), l3] (st) = ab_res scr 25 d M 44 [l0, l1, some (.int x), l3] (.int x :: st) := ab_o_iload_n (ab_dc hc25 dX1_leastOut_43) rfl
theorem q25_44 {v0 : Int32} {v1 : Nat} : ab_res scr 25 d M 44 [l0, l1, l2, l3] (.int v0 :: .ref v1 :: st) = (ab_qe v1 v0).bind fun v => ab_res scr 25 d M 45 [l0, l1, l2, l3] (v :: st) := ab_o_aaload (ab_dc hc25 dX1_leastOut_44)
theorem q25_45 {v0 : Nat} {v1 : Int32} (hb : (ab_rc ab_L0 v0 = some 7) = True) : ab_res scr 25 2 M 45 [l0, l1, l2, l3] ([.ref v0, .int v1]) = (ab_ms scr 53 [.ref v0] M).bind fun o => ab_res scr 25 2 o.1 48 [l0, l1, l2, l3] (ab_pr o.2 [.int v1]) := ab_o_virtual (ab_dc hc25 dX1_leastOut_45) hk25 lk_ca_1_81 hm53 (Nat.le_of_ble_eq_true rfl) rfl rfl rfl (of_eq_true hb) rfl rfl
theorem q25_48 {v0 : Int32} {v1 : Int32} : ab_res scr 25 d M 48 [l0, l1, l2, l3] (.int v0 :: .int v1 :: st) = if v0 ≤ v1 then ab_res scr 25 d M 53 [l0, l1, l2, l3] (st) else ab_res scr 25 d M 51 [l0, l1, l2, l3] (st) := ab_o_br2 (off := 5) (ab_dc hc25 dX1_leastOut_48) (by decide) rfl rfl
theorem q25_51 {x : Int32} : ab_res scr 25 d M 51 [l0, l1, l2, some (.int x)] (st) = ab_res scr 25 d M 52 [l0, l1, l2, some (.int x)] (.int x :: st) := ab_o_iload_n (ab_dc hc25 dX1_leastOut_51) rfl
theorem q25_52 {v0 : Int32} : ab_res scr 25 d M 52 [l0, l1, l2, l3] (.int v0 :: st) = ab_res scr 25 d M 53 [l0, ab_nl l1, some (.int v0), l3] (st) := (ab_o_st1 (k := 2) (ab_dc hc25 dX1_leastOut_52) (Or.inr (Or.inr (Or.inl ⟨2, rfl, rfl, rfl, ⟨_, rfl⟩⟩))) hn25 (by decide)).trans (ab_kl1 [l0] _ l1 rfl rfl)
theorem q25_53 {x : Int32} : ab_res scr 25 d M 53 [l0, l1, l2, some (.int x)] (st) = ab_res scr 25 d M 56 [l0, l1, ab_nl l2, some (.int (x + 1))] (st) := (ab_o_iinc (k := 3) (ab_dc hc25 dX1_leastOut_53) hn25 (by decide) rfl).trans (by rw [ki_iconst_1]; exact ab_kl1 [l0, l1] _ l2 rfl rfl)
theorem q25_56 : ab_res scr 25 d M 56 [l0, l1, l2, l3] (st) = ab_res scr 25 d M 5 [l0, l1, l2, l3] (st) := ab_o_goto (ab_dc hc25 dX1_leastOut_56) (by decide)
theorem q25_59 {x : Int32} : ab_res scr 25 d M 59 [l0, l1, some (.int x), l3] (st) = ab_res scr 25 d M 60 [l0, l1, some (.int x), l3] (.int x :: st) := ab_o_iload_n (ab_dc hc25 dX1_leastOut_59) rfl
theorem q25_60 {v0 : Int32} : ab_res scr 25 d M 60 [l0, l1, l2, l3] ([.int v0]) = some (M, some (.int v0)) := ab_o_ireturn (ab_dc hc25 dX1_leastOut_60) hr25 rfl
end Q25
