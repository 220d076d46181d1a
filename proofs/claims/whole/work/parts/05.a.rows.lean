theorem ab_fit_int (x : Int32) : ab_fit .int x = true := by
  unfold ab_fit
  rw [Bool.and_eq_true]
  exact ⟨decide_eq_true rfl, rfl⟩
theorem ab_pti {a ci k : Nat} {x : Int32} (h : ab_fty ci k = .int) (h2 : ab_pt a ci k 0 = true) : ab_pt a ci k x = true := by
  unfold ab_pt at h2 ⊢
  rw [h, ab_fit_int] at h2 ⊢
  exact h2
/-! What the fields and the elements of the fixed layout are, by program -/
section LAY
variable {scr : Option (List Int32)} {M : ab_M}
theorem rc_0 : ab_rc ab_L0 0 = some 11 := rfl
theorem gf_0_0 : ab_gF ab_L0 M 0 11 0 = some (.ref 1) := rfl
theorem gf_0_1 : ab_gF ab_L0 M 0 11 1 = some (.ref 3) := rfl
theorem gf_0_2 : ab_gF ab_L0 M 0 11 2 = some (.ref 16) := rfl
theorem gf_0_3 : ab_gF ab_L0 M 0 11 3 = some (.ref 28) := rfl
theorem gf_0_4 : ab_gF ab_L0 M 0 11 4 = some (.ref 29) := rfl
theorem gf_0_5 : ab_gF ab_L0 M 0 11 5 = some (.ref 30) := rfl
theorem gf_0_6 : ab_gF ab_L0 M 0 11 6 = some (.ref 81) := rfl
theorem gf_0_7 : ab_gF ab_L0 M 0 11 7 = some (.ref 85) := rfl
theorem gf_0_8 : ab_gF ab_L0 M 0 11 8 = some (.ref 86) := rfl
theorem gf_0_9 : ab_gF ab_L0 M 0 11 9 = some (.int (M 0 9)) := rfl
theorem pt_0_9 (x : Int32) : ab_pt 0 11 9 x = true := ab_pti rfl rfl
theorem rc_1 : ab_rc ab_L0 1 = some 10 := rfl
theorem gf_1_0 : ab_gF ab_L0 M 1 10 0 = some (.ref 2) := rfl
theorem gf_1_1 : ab_gF ab_L0 M 1 10 1 = some (.int (M 1 1)) := rfl
theorem pt_1_1 (x : Int32) : ab_pt 1 10 1 x = true := ab_pti rfl rfl
theorem gf_1_2 : ab_gF ab_L0 M 1 10 2 = some (.int (M 1 2)) := rfl
theorem pt_1_2 (x : Int32) : ab_pt 1 10 2 x = true := ab_pti rfl rfl
theorem gf_1_3 : ab_gF ab_L0 M 1 10 3 = some (.int (M 1 3)) := rfl
theorem pt_1_3 (x : Int32) : ab_pt 1 10 3 x = true := ab_pti rfl rfl
theorem gf_1_4 : ab_gF ab_L0 M 1 10 4 = some (.int (M 1 4)) := rfl
theorem pt_1_4 (x : Int32) : ab_pt 1 10 4 x = true := ab_pti rfl rfl
theorem gf_1_5 : ab_gF ab_L0 M 1 10 5 = some (.int (M 1 5)) := rfl
theorem pt_1_5 (x : Int32) : ab_pt 1 10 5 x = true := ab_pti rfl rfl
theorem ln_2 : ab_len scr ab_L0 2 = some 320 := rfl
theorem bl_2 (i : Int32) : ab_bl scr M 2 i = if ab_inB i 320 = true then some (M 2 i.toNatClampNeg) else none := by
  show (match (if ab_inB i 320 = true then some (M 2 i.toNatClampNeg) else none) with | some v => some v | none => none) = _
  split <;> simp_all
theorem bs_2 (i : Int32) : ab_si 2 .byte i = ab_inB i 320 := rfl
theorem rc_3 : ab_rc ab_L0 3 = some 9 := rfl
theorem gf_3_0 : ab_gF ab_L0 M 3 9 0 = some (.ref 4) := rfl
theorem gf_3_1 : ab_gF ab_L0 M 3 9 1 = some (.ref 1) := rfl
theorem gf_3_2 : ab_gF ab_L0 M 3 9 2 = some (.int (M 3 2)) := rfl
theorem pt_3_2 (x : Int32) : ab_pt 3 9 2 x = true := ab_pti rfl rfl
theorem gf_3_3 : ab_gF ab_L0 M 3 9 3 = some (.int (M 3 3)) := rfl
theorem pt_3_3 (x : Int32) : ab_pt 3 9 3 x = true := ab_pti rfl rfl
theorem gf_3_4 : ab_gF ab_L0 M 3 9 4 = some (.int (M 3 4)) := rfl
theorem pt_3_4_0 : ab_pt 3 9 4 0 = true := rfl
theorem pt_3_4_1 : ab_pt 3 9 4 1 = true := rfl
theorem rc_4 : ab_rc ab_L0 4 = some 4 := rfl
theorem gf_4_0 : ab_gF ab_L0 M 4 4 0 = some (.ref 5) := rfl
theorem gf_4_1 : ab_gF ab_L0 M 4 4 1 = some (.ref 14) := rfl
theorem gf_4_2 : ab_gF ab_L0 M 4 4 2 = some (.ref 15) := rfl
theorem gf_4_3 : ab_gF ab_L0 M 4 4 3 = some (.int (M 4 3)) := rfl
theorem pt_4_3 (x : Int32) : ab_pt 4 4 3 x = true := ab_pti rfl rfl
theorem gf_4_4 : ab_gF ab_L0 M 4 4 4 = some (.int (M 4 4)) := rfl
theorem pt_4_4 (x : Int32) : ab_pt 4 4 4 x = true := ab_pti rfl rfl
theorem gf_4_5 : ab_gF ab_L0 M 4 4 5 = some (.int (M 4 5)) := rfl
theorem pt_4_5 (x : Int32) : ab_pt 4 4 5 x = true := ab_pti rfl rfl
theorem qe_5_0 : ab_qe 5 0 = some (.ref 6) := rfl
theorem qe_5_1 : ab_qe 5 1 = some (.ref 7) := rfl
theorem qe_5_2 : ab_qe 5 2 = some (.ref 8) := rfl
theorem qe_5_3 : ab_qe 5 3 = some (.ref 9) := rfl
theorem qe_5_4 : ab_qe 5 4 = some (.ref 10) := rfl
theorem qe_5_5 : ab_qe 5 5 = some (.ref 11) := rfl
theorem qe_5_6 : ab_qe 5 6 = some (.ref 12) := rfl
theorem qe_5_7 : ab_qe 5 7 = some (.ref 13) := rfl
theorem ln_6 : ab_len scr ab_L0 6 = some 8 := rfl
theorem ar_6 : ab_ar ab_L0 6 .int = some 8 := rfl
theorem al_6 (i : Int32) : ab_ald scr ab_L0 M 6 .int i = if ab_inB i 8 = true then some (M 6 i.toNatClampNeg) else none := rfl
theorem si_6 (i : Int32) : ab_si 6 .int i = ab_inB i 8 := rfl
theorem ln_7 : ab_len scr ab_L0 7 = some 8 := rfl
theorem ar_7 : ab_ar ab_L0 7 .int = some 8 := rfl
theorem al_7 (i : Int32) : ab_ald scr ab_L0 M 7 .int i = if ab_inB i 8 = true then some (M 7 i.toNatClampNeg) else none := rfl
theorem si_7 (i : Int32) : ab_si 7 .int i = ab_inB i 8 := rfl
theorem ln_8 : ab_len scr ab_L0 8 = some 8 := rfl
theorem ar_8 : ab_ar ab_L0 8 .int = some 8 := rfl
theorem al_8 (i : Int32) : ab_ald scr ab_L0 M 8 .int i = if ab_inB i 8 = true then some (M 8 i.toNatClampNeg) else none := rfl
theorem si_8 (i : Int32) : ab_si 8 .int i = ab_inB i 8 := rfl
theorem ln_9 : ab_len scr ab_L0 9 = some 8 := rfl
theorem ar_9 : ab_ar ab_L0 9 .int = some 8 := rfl
theorem al_9 (i : Int32) : ab_ald scr ab_L0 M 9 .int i = if ab_inB i 8 = true then some (M 9 i.toNatClampNeg) else none := rfl
theorem si_9 (i : Int32) : ab_si 9 .int i = ab_inB i 8 := rfl
theorem ln_10 : ab_len scr ab_L0 10 = some 8 := rfl
theorem ar_10 : ab_ar ab_L0 10 .int = some 8 := rfl
theorem al_10 (i : Int32) : ab_ald scr ab_L0 M 10 .int i = if ab_inB i 8 = true then some (M 10 i.toNatClampNeg) else none := rfl
theorem si_10 (i : Int32) : ab_si 10 .int i = ab_inB i 8 := rfl
theorem ln_11 : ab_len scr ab_L0 11 = some 8 := rfl
theorem ar_11 : ab_ar ab_L0 11 .int = some 8 := rfl
theorem al_11 (i : Int32) : ab_ald scr ab_L0 M 11 .int i = if ab_inB i 8 = true then some (M 11 i.toNatClampNeg) else none := rfl
theorem si_11 (i : Int32) : ab_si 11 .int i = ab_inB i 8 := rfl
theorem ln_12 : ab_len scr ab_L0 12 = some 8 := rfl
theorem ar_12 : ab_ar ab_L0 12 .int = some 8 := rfl
theorem al_12 (i : Int32) : ab_ald scr ab_L0 M 12 .int i = if ab_inB i 8 = true then some (M 12 i.toNatClampNeg) else none := rfl
theorem si_12 (i : Int32) : ab_si 12 .int i = ab_inB i 8 := rfl
theorem ln_13 : ab_len scr ab_L0 13 = some 8 := rfl
theorem ar_13 : ab_ar ab_L0 13 .int = some 8 := rfl
theorem al_13 (i : Int32) : ab_ald scr ab_L0 M 13 .int i = if ab_inB i 8 = true then some (M 13 i.toNatClampNeg) else none := rfl
theorem si_13 (i : Int32) : ab_si 13 .int i = ab_inB i 8 := rfl
theorem ln_14 : ab_len scr ab_L0 14 = some 8 := rfl
theorem ar_14 : ab_ar ab_L0 14 .int = some 8 := rfl
theorem al_14 (i : Int32) : ab_ald scr ab_L0 M 14 .int i = if ab_inB i 8 = true then some (M 14 i.toNatClampNeg) else none := rfl
theorem si_14 (i : Int32) : ab_si 14 .int i = ab_inB i 8 := rfl
theorem ln_15 : ab_len scr ab_L0 15 = some 12 := rfl
theorem ar_15 : ab_ar ab_L0 15 .int = some 12 := rfl
theorem al_15 (i : Int32) : ab_ald scr ab_L0 M 15 .int i = if ab_inB i 12 = true then some (M 15 i.toNatClampNeg) else none := rfl
theorem si_15 (i : Int32) : ab_si 15 .int i = ab_inB i 12 := rfl
theorem rc_16 : ab_rc ab_L0 16 = some 4 := rfl
theorem gf_16_0 : ab_gF ab_L0 M 16 4 0 = some (.ref 17) := rfl
theorem gf_16_1 : ab_gF ab_L0 M 16 4 1 = some (.ref 26) := rfl
theorem gf_16_2 : ab_gF ab_L0 M 16 4 2 = some (.ref 27) := rfl
theorem gf_16_3 : ab_gF ab_L0 M 16 4 3 = some (.int (M 16 3)) := rfl
theorem pt_16_3 (x : Int32) : ab_pt 16 4 3 x = true := ab_pti rfl rfl
theorem gf_16_4 : ab_gF ab_L0 M 16 4 4 = some (.int (M 16 4)) := rfl
theorem pt_16_4 (x : Int32) : ab_pt 16 4 4 x = true := ab_pti rfl rfl
theorem gf_16_5 : ab_gF ab_L0 M 16 4 5 = some (.int (M 16 5)) := rfl
theorem pt_16_5 (x : Int32) : ab_pt 16 4 5 x = true := ab_pti rfl rfl
theorem qe_17_0 : ab_qe 17 0 = some (.ref 18) := rfl
theorem qe_17_1 : ab_qe 17 1 = some (.ref 19) := rfl
theorem qe_17_2 : ab_qe 17 2 = some (.ref 20) := rfl
theorem qe_17_3 : ab_qe 17 3 = some (.ref 21) := rfl
theorem qe_17_4 : ab_qe 17 4 = some (.ref 22) := rfl
theorem qe_17_5 : ab_qe 17 5 = some (.ref 23) := rfl
theorem qe_17_6 : ab_qe 17 6 = some (.ref 24) := rfl
theorem qe_17_7 : ab_qe 17 7 = some (.ref 25) := rfl
theorem ln_18 : ab_len scr ab_L0 18 = some 8 := rfl
theorem ar_18 : ab_ar ab_L0 18 .int = some 8 := rfl
theorem al_18 (i : Int32) : ab_ald scr ab_L0 M 18 .int i = if ab_inB i 8 = true then some (M 18 i.toNatClampNeg) else none := rfl
theorem si_18 (i : Int32) : ab_si 18 .int i = ab_inB i 8 := rfl
theorem ln_19 : ab_len scr ab_L0 19 = some 8 := rfl
theorem ar_19 : ab_ar ab_L0 19 .int = some 8 := rfl
theorem al_19 (i : Int32) : ab_ald scr ab_L0 M 19 .int i = if ab_inB i 8 = true then some (M 19 i.toNatClampNeg) else none := rfl
theorem si_19 (i : Int32) : ab_si 19 .int i = ab_inB i 8 := rfl
theorem ln_20 : ab_len scr ab_L0 20 = some 8 := rfl
theorem ar_20 : ab_ar ab_L0 20 .int = some 8 := rfl
theorem al_20 (i : Int32) : ab_ald scr ab_L0 M 20 .int i = if ab_inB i 8 = true then some (M 20 i.toNatClampNeg) else none := rfl
theorem si_20 (i : Int32) : ab_si 20 .int i = ab_inB i 8 := rfl
theorem ln_21 : ab_len scr ab_L0 21 = some 8 := rfl
theorem ar_21 : ab_ar ab_L0 21 .int = some 8 := rfl
theorem al_21 (i : Int32) : ab_ald scr ab_L0 M 21 .int i = if ab_inB i 8 = true then some (M 21 i.toNatClampNeg) else none := rfl
theorem si_21 (i : Int32) : ab_si 21 .int i = ab_inB i 8 := rfl
theorem ln_22 : ab_len scr ab_L0 22 = some 8 := rfl
theorem ar_22 : ab_ar ab_L0 22 .int = some 8 := rfl
theorem al_22 (i : Int32) : ab_ald scr ab_L0 M 22 .int i = if ab_inB i 8 = true then some (M 22 i.toNatClampNeg) else none := rfl
theorem si_22 (i : Int32) : ab_si 22 .int i = ab_inB i 8 := rfl
theorem ln_23 : ab_len scr ab_L0 23 = some 8 := rfl
theorem ar_23 : ab_ar ab_L0 23 .int = some 8 := rfl
theorem al_23 (i : Int32) : ab_ald scr ab_L0 M 23 .int i = if ab_inB i 8 = true then some (M 23 i.toNatClampNeg) else none := rfl
theorem si_23 (i : Int32) : ab_si 23 .int i = ab_inB i 8 := rfl
theorem ln_24 : ab_len scr ab_L0 24 = some 8 := rfl
theorem ar_24 : ab_ar ab_L0 24 .int = some 8 := rfl
theorem al_24 (i : Int32) : ab_ald scr ab_L0 M 24 .int i = if ab_inB i 8 = true then some (M 24 i.toNatClampNeg) else none := rfl
theorem si_24 (i : Int32) : ab_si 24 .int i = ab_inB i 8 := rfl
theorem ln_25 : ab_len scr ab_L0 25 = some 8 := rfl
theorem ar_25 : ab_ar ab_L0 25 .int = some 8 := rfl
theorem al_25 (i : Int32) : ab_ald scr ab_L0 M 25 .int i = if ab_inB i 8 = true then some (M 25 i.toNatClampNeg) else none := rfl
theorem si_25 (i : Int32) : ab_si 25 .int i = ab_inB i 8 := rfl
theorem ln_26 : ab_len scr ab_L0 26 = some 8 := rfl
theorem ar_26 : ab_ar ab_L0 26 .int = some 8 := rfl
theorem al_26 (i : Int32) : ab_ald scr ab_L0 M 26 .int i = if ab_inB i 8 = true then some (M 26 i.toNatClampNeg) else none := rfl
theorem si_26 (i : Int32) : ab_si 26 .int i = ab_inB i 8 := rfl
theorem ln_27 : ab_len scr ab_L0 27 = some 12 := rfl
theorem ar_27 : ab_ar ab_L0 27 .int = some 12 := rfl
theorem al_27 (i : Int32) : ab_ald scr ab_L0 M 27 .int i = if ab_inB i 12 = true then some (M 27 i.toNatClampNeg) else none := rfl
theorem si_27 (i : Int32) : ab_si 27 .int i = ab_inB i 12 := rfl
theorem qe_28_0 : ab_qe 28 0 = some (.ref 89) := rfl
theorem qe_28_1 : ab_qe 28 1 = some (.ref 102) := rfl
theorem qe_29_0 : ab_qe 29 0 = some (.ref 115) := rfl
theorem qe_29_1 : ab_qe 29 1 = some (.ref 117) := rfl
theorem qe_29_2 : ab_qe 29 2 = some (.ref 119) := rfl
theorem qe_29_3 : ab_qe 29 3 = some (.ref 121) := rfl
theorem rc_30 : ab_rc ab_L0 30 = some 1 := rfl
theorem gf_30_0 : ab_gF ab_L0 M 30 1 0 = some (.ref 16) := rfl
theorem gf_30_1 : ab_gF ab_L0 M 30 1 1 = some (.ref 31) := rfl
theorem gf_30_2 : ab_gF ab_L0 M 30 1 2 = some (.ref 32) := rfl
theorem gf_30_3 : ab_gF ab_L0 M 30 1 3 = some (.int (M 30 3)) := rfl
theorem pt_30_3 (x : Int32) : ab_pt 30 1 3 x = true := ab_pti rfl rfl
theorem gf_30_4 : ab_gF ab_L0 M 30 1 4 = some (.int (M 30 4)) := rfl
theorem pt_30_4 (x : Int32) : ab_pt 30 1 4 x = true := ab_pti rfl rfl
theorem gf_30_5 : ab_gF ab_L0 M 30 1 5 = some (.int (M 30 5)) := rfl
theorem pt_30_5 (x : Int32) : ab_pt 30 1 5 x = true := ab_pti rfl rfl
theorem gf_30_6 : ab_gF ab_L0 M 30 1 6 = some (.int (M 30 6)) := rfl
theorem pt_30_6 (x : Int32) : ab_pt 30 1 6 x = true := ab_pti rfl rfl
theorem gf_30_7 : ab_gF ab_L0 M 30 1 7 = some (.int (M 30 7)) := rfl
theorem pt_30_7 (x : Int32) : ab_pt 30 1 7 x = true := ab_pti rfl rfl
theorem gf_30_8 : ab_gF ab_L0 M 30 1 8 = some (.int (M 30 8)) := rfl
theorem pt_30_8 (x : Int32) : ab_pt 30 1 8 x = true := ab_pti rfl rfl
theorem gf_30_9 : ab_gF ab_L0 M 30 1 9 = some (.int (M 30 9)) := rfl
theorem pt_30_9_0 : ab_pt 30 1 9 0 = true := rfl
theorem pt_30_9_1 : ab_pt 30 1 9 1 = true := rfl
theorem gf_30_10 : ab_gF ab_L0 M 30 1 10 = some (.int (M 30 10)) := rfl
theorem pt_30_10 (x : Int32) : ab_pt 30 1 10 x = true := ab_pti rfl rfl
theorem gf_30_11 : ab_gF ab_L0 M 30 1 11 = some (.int (M 30 11)) := rfl
theorem pt_30_11 (x : Int32) : ab_pt 30 1 11 x = true := ab_pti rfl rfl
theorem gf_30_12 : ab_gF ab_L0 M 30 1 12 = some (.int (M 30 12)) := rfl
theorem pt_30_12 (x : Int32) : ab_pt 30 1 12 x = true := ab_pti rfl rfl
theorem gf_30_13 : ab_gF ab_L0 M 30 1 13 = some (.int (M 30 13)) := rfl
theorem pt_30_13 (x : Int32) : ab_pt 30 1 13 x = true := ab_pti rfl rfl
theorem qe_31_0 : ab_qe 31 0 = some (.ref 33) := rfl
theorem qe_31_1 : ab_qe 31 1 = some (.ref 34) := rfl
theorem qe_31_2 : ab_qe 31 2 = some (.ref 35) := rfl
theorem qe_31_3 : ab_qe 31 3 = some (.ref 36) := rfl
theorem qe_31_4 : ab_qe 31 4 = some (.ref 37) := rfl
theorem qe_31_5 : ab_qe 31 5 = some (.ref 38) := rfl
theorem qe_31_6 : ab_qe 31 6 = some (.ref 39) := rfl
theorem qe_31_7 : ab_qe 31 7 = some (.ref 40) := rfl
theorem rc_81 : ab_rc ab_L0 81 = some 5 := rfl
theorem gf_81_0 : ab_gF ab_L0 M 81 5 0 = some (.ref 16) := rfl
theorem gf_81_1 : ab_gF ab_L0 M 81 5 1 = some (.ref 30) := rfl
theorem gf_81_2 : ab_gF ab_L0 M 81 5 2 = some (.ref 82) := rfl
theorem gf_81_3 : ab_gF ab_L0 M 81 5 3 = some (.int (M 81 3)) := rfl
theorem pt_81_3 (x : Int32) : ab_pt 81 5 3 x = true := ab_pti rfl rfl
theorem gf_81_4 : ab_gF ab_L0 M 81 5 4 = some (.ref 83) := rfl
theorem gf_81_5 : ab_gF ab_L0 M 81 5 5 = some (.ref 84) := rfl
theorem gf_81_6 : ab_gF ab_L0 M 81 5 6 = some (.int (M 81 6)) := rfl
theorem pt_81_6 (x : Int32) : ab_pt 81 5 6 x = true := ab_pti rfl rfl
theorem ln_82 : ab_len scr ab_L0 82 = some 6 := rfl
theorem ar_82 : ab_ar ab_L0 82 .int = some 6 := rfl
theorem al_82 (i : Int32) : ab_ald scr ab_L0 M 82 .int i = if ab_inB i 6 = true then some (M 82 i.toNatClampNeg) else none := rfl
theorem si_82 (i : Int32) : ab_si 82 .int i = ab_inB i 6 := rfl
theorem ln_83 : ab_len scr ab_L0 83 = some 6 := rfl
theorem ar_83 : ab_ar ab_L0 83 .int = some 6 := rfl
theorem al_83 (i : Int32) : ab_ald scr ab_L0 M 83 .int i = if ab_inB i 6 = true then some (M 83 i.toNatClampNeg) else none := rfl
theorem si_83 (i : Int32) : ab_si 83 .int i = ab_inB i 6 := rfl
theorem ln_84 : ab_len scr ab_L0 84 = some 8 := rfl
theorem ar_84 : ab_ar ab_L0 84 .int = some 8 := rfl
theorem al_84 (i : Int32) : ab_ald scr ab_L0 M 84 .int i = if ab_inB i 8 = true then some (M 84 i.toNatClampNeg) else none := rfl
theorem si_84 (i : Int32) : ab_si 84 .int i = ab_inB i 8 := rfl
theorem rc_85 : ab_rc ab_L0 85 = some 2 := rfl
theorem gf_85_0 : ab_gF ab_L0 M 85 2 0 = some (.ref 16) := rfl
theorem gf_85_1 : ab_gF ab_L0 M 85 2 1 = some (.ref 30) := rfl
theorem gf_85_2 : ab_gF ab_L0 M 85 2 2 = some (.int (M 85 2)) := rfl
theorem pt_85_2 (x : Int32) : ab_pt 85 2 2 x = true := ab_pti rfl rfl
theorem gf_85_3 : ab_gF ab_L0 M 85 2 3 = some (.int (M 85 3)) := rfl
theorem pt_85_3 (x : Int32) : ab_pt 85 2 3 x = true := ab_pti rfl rfl
theorem rc_86 : ab_rc ab_L0 86 = some 0 := rfl
theorem gf_86_0 : ab_gF ab_L0 M 86 0 0 = some (.ref 16) := rfl
theorem gf_86_1 : ab_gF ab_L0 M 86 0 1 = some (.ref 87) := rfl
theorem gf_86_2 : ab_gF ab_L0 M 86 0 2 = some (.ref 88) := rfl
theorem ln_87 : ab_len scr ab_L0 87 = some 256 := rfl
theorem ar_87 : ab_ar ab_L0 87 .int = some 256 := rfl
theorem al_87 (i : Int32) : ab_ald scr ab_L0 M 87 .int i = if ab_inB i 256 = true then some (M 87 i.toNatClampNeg) else none := rfl
theorem si_87 (i : Int32) : ab_si 87 .int i = ab_inB i 256 := rfl
theorem ln_88 : ab_len scr ab_L0 88 = some 256 := rfl
theorem ar_88 : ab_ar ab_L0 88 .int = some 256 := rfl
theorem al_88 (i : Int32) : ab_ald scr ab_L0 M 88 .int i = if ab_inB i 256 = true then some (M 88 i.toNatClampNeg) else none := rfl
theorem si_88 (i : Int32) : ab_si 88 .int i = ab_inB i 256 := rfl
theorem rc_89 : ab_rc ab_L0 89 = some 3 := rfl
theorem gf_89_0 : ab_gF ab_L0 M 89 3 0 = some (.ref 90) := rfl
theorem gf_89_1 : ab_gF ab_L0 M 89 3 1 = some (.int (M 89 1)) := rfl
theorem pt_89_1_0 : ab_pt 89 3 1 0 = true := rfl
theorem pt_89_1_1 : ab_pt 89 3 1 1 = true := rfl
theorem rc_90 : ab_rc ab_L0 90 = some 4 := rfl
theorem gf_90_0 : ab_gF ab_L0 M 90 4 0 = some (.ref 91) := rfl
theorem gf_90_1 : ab_gF ab_L0 M 90 4 1 = some (.ref 100) := rfl
theorem gf_90_2 : ab_gF ab_L0 M 90 4 2 = some (.ref 101) := rfl
theorem gf_90_3 : ab_gF ab_L0 M 90 4 3 = some (.int (M 90 3)) := rfl
theorem pt_90_3 (x : Int32) : ab_pt 90 4 3 x = true := ab_pti rfl rfl
theorem gf_90_4 : ab_gF ab_L0 M 90 4 4 = some (.int (M 90 4)) := rfl
theorem pt_90_4 (x : Int32) : ab_pt 90 4 4 x = true := ab_pti rfl rfl
theorem gf_90_5 : ab_gF ab_L0 M 90 4 5 = some (.int (M 90 5)) := rfl
theorem pt_90_5 (x : Int32) : ab_pt 90 4 5 x = true := ab_pti rfl rfl
theorem qe_91_0 : ab_qe 91 0 = some (.ref 92) := rfl
theorem qe_91_1 : ab_qe 91 1 = some (.ref 93) := rfl
theorem qe_91_2 : ab_qe 91 2 = some (.ref 94) := rfl
theorem qe_91_3 : ab_qe 91 3 = some (.ref 95) := rfl
theorem qe_91_4 : ab_qe 91 4 = some (.ref 96) := rfl
theorem qe_91_5 : ab_qe 91 5 = some (.ref 97) := rfl
theorem qe_91_6 : ab_qe 91 6 = some (.ref 98) := rfl
theorem qe_91_7 : ab_qe 91 7 = some (.ref 99) := rfl
theorem ln_92 : ab_len scr ab_L0 92 = some 8 := rfl
theorem ar_92 : ab_ar ab_L0 92 .int = some 8 := rfl
theorem al_92 (i : Int32) : ab_ald scr ab_L0 M 92 .int i = if ab_inB i 8 = true then some (M 92 i.toNatClampNeg) else none := rfl
theorem si_92 (i : Int32) : ab_si 92 .int i = ab_inB i 8 := rfl
theorem ln_93 : ab_len scr ab_L0 93 = some 8 := rfl
theorem ar_93 : ab_ar ab_L0 93 .int = some 8 := rfl
theorem al_93 (i : Int32) : ab_ald scr ab_L0 M 93 .int i = if ab_inB i 8 = true then some (M 93 i.toNatClampNeg) else none := rfl
theorem si_93 (i : Int32) : ab_si 93 .int i = ab_inB i 8 := rfl
theorem ln_94 : ab_len scr ab_L0 94 = some 8 := rfl
theorem ar_94 : ab_ar ab_L0 94 .int = some 8 := rfl
theorem al_94 (i : Int32) : ab_ald scr ab_L0 M 94 .int i = if ab_inB i 8 = true then some (M 94 i.toNatClampNeg) else none := rfl
theorem si_94 (i : Int32) : ab_si 94 .int i = ab_inB i 8 := rfl
theorem ln_95 : ab_len scr ab_L0 95 = some 8 := rfl
theorem ar_95 : ab_ar ab_L0 95 .int = some 8 := rfl
theorem al_95 (i : Int32) : ab_ald scr ab_L0 M 95 .int i = if ab_inB i 8 = true then some (M 95 i.toNatClampNeg) else none := rfl
theorem si_95 (i : Int32) : ab_si 95 .int i = ab_inB i 8 := rfl
theorem ln_96 : ab_len scr ab_L0 96 = some 8 := rfl
theorem ar_96 : ab_ar ab_L0 96 .int = some 8 := rfl
theorem al_96 (i : Int32) : ab_ald scr ab_L0 M 96 .int i = if ab_inB i 8 = true then some (M 96 i.toNatClampNeg) else none := rfl
theorem si_96 (i : Int32) : ab_si 96 .int i = ab_inB i 8 := rfl
theorem ln_97 : ab_len scr ab_L0 97 = some 8 := rfl
theorem ar_97 : ab_ar ab_L0 97 .int = some 8 := rfl
theorem al_97 (i : Int32) : ab_ald scr ab_L0 M 97 .int i = if ab_inB i 8 = true then some (M 97 i.toNatClampNeg) else none := rfl
theorem si_97 (i : Int32) : ab_si 97 .int i = ab_inB i 8 := rfl
theorem ln_98 : ab_len scr ab_L0 98 = some 8 := rfl
theorem ar_98 : ab_ar ab_L0 98 .int = some 8 := rfl
theorem al_98 (i : Int32) : ab_ald scr ab_L0 M 98 .int i = if ab_inB i 8 = true then some (M 98 i.toNatClampNeg) else none := rfl
theorem si_98 (i : Int32) : ab_si 98 .int i = ab_inB i 8 := rfl
theorem ln_99 : ab_len scr ab_L0 99 = some 8 := rfl
theorem ar_99 : ab_ar ab_L0 99 .int = some 8 := rfl
theorem al_99 (i : Int32) : ab_ald scr ab_L0 M 99 .int i = if ab_inB i 8 = true then some (M 99 i.toNatClampNeg) else none := rfl
theorem si_99 (i : Int32) : ab_si 99 .int i = ab_inB i 8 := rfl
theorem ln_100 : ab_len scr ab_L0 100 = some 8 := rfl
theorem ar_100 : ab_ar ab_L0 100 .int = some 8 := rfl
theorem al_100 (i : Int32) : ab_ald scr ab_L0 M 100 .int i = if ab_inB i 8 = true then some (M 100 i.toNatClampNeg) else none := rfl
theorem si_100 (i : Int32) : ab_si 100 .int i = ab_inB i 8 := rfl
theorem ln_101 : ab_len scr ab_L0 101 = some 12 := rfl
theorem ar_101 : ab_ar ab_L0 101 .int = some 12 := rfl
theorem al_101 (i : Int32) : ab_ald scr ab_L0 M 101 .int i = if ab_inB i 12 = true then some (M 101 i.toNatClampNeg) else none := rfl
theorem si_101 (i : Int32) : ab_si 101 .int i = ab_inB i 12 := rfl
theorem rc_102 : ab_rc ab_L0 102 = some 3 := rfl
theorem gf_102_0 : ab_gF ab_L0 M 102 3 0 = some (.ref 103) := rfl
theorem gf_102_1 : ab_gF ab_L0 M 102 3 1 = some (.int (M 102 1)) := rfl
theorem pt_102_1_0 : ab_pt 102 3 1 0 = true := rfl
theorem pt_102_1_1 : ab_pt 102 3 1 1 = true := rfl
theorem rc_103 : ab_rc ab_L0 103 = some 4 := rfl
theorem gf_103_0 : ab_gF ab_L0 M 103 4 0 = some (.ref 104) := rfl
theorem gf_103_1 : ab_gF ab_L0 M 103 4 1 = some (.ref 113) := rfl
theorem gf_103_2 : ab_gF ab_L0 M 103 4 2 = some (.ref 114) := rfl
theorem gf_103_3 : ab_gF ab_L0 M 103 4 3 = some (.int (M 103 3)) := rfl
theorem pt_103_3 (x : Int32) : ab_pt 103 4 3 x = true := ab_pti rfl rfl
theorem gf_103_4 : ab_gF ab_L0 M 103 4 4 = some (.int (M 103 4)) := rfl
theorem pt_103_4 (x : Int32) : ab_pt 103 4 4 x = true := ab_pti rfl rfl
theorem gf_103_5 : ab_gF ab_L0 M 103 4 5 = some (.int (M 103 5)) := rfl
theorem pt_103_5 (x : Int32) : ab_pt 103 4 5 x = true := ab_pti rfl rfl
theorem qe_104_0 : ab_qe 104 0 = some (.ref 105) := rfl
theorem qe_104_1 : ab_qe 104 1 = some (.ref 106) := rfl
theorem qe_104_2 : ab_qe 104 2 = some (.ref 107) := rfl
theorem qe_104_3 : ab_qe 104 3 = some (.ref 108) := rfl
theorem qe_104_4 : ab_qe 104 4 = some (.ref 109) := rfl
theorem qe_104_5 : ab_qe 104 5 = some (.ref 110) := rfl
theorem qe_104_6 : ab_qe 104 6 = some (.ref 111) := rfl
theorem qe_104_7 : ab_qe 104 7 = some (.ref 112) := rfl
theorem ln_105 : ab_len scr ab_L0 105 = some 8 := rfl
theorem ar_105 : ab_ar ab_L0 105 .int = some 8 := rfl
theorem al_105 (i : Int32) : ab_ald scr ab_L0 M 105 .int i = if ab_inB i 8 = true then some (M 105 i.toNatClampNeg) else none := rfl
theorem si_105 (i : Int32) : ab_si 105 .int i = ab_inB i 8 := rfl
theorem ln_106 : ab_len scr ab_L0 106 = some 8 := rfl
theorem ar_106 : ab_ar ab_L0 106 .int = some 8 := rfl
theorem al_106 (i : Int32) : ab_ald scr ab_L0 M 106 .int i = if ab_inB i 8 = true then some (M 106 i.toNatClampNeg) else none := rfl
theorem si_106 (i : Int32) : ab_si 106 .int i = ab_inB i 8 := rfl
theorem ln_107 : ab_len scr ab_L0 107 = some 8 := rfl
theorem ar_107 : ab_ar ab_L0 107 .int = some 8 := rfl
theorem al_107 (i : Int32) : ab_ald scr ab_L0 M 107 .int i = if ab_inB i 8 = true then some (M 107 i.toNatClampNeg) else none := rfl
theorem si_107 (i : Int32) : ab_si 107 .int i = ab_inB i 8 := rfl
theorem ln_108 : ab_len scr ab_L0 108 = some 8 := rfl
theorem ar_108 : ab_ar ab_L0 108 .int = some 8 := rfl
theorem al_108 (i : Int32) : ab_ald scr ab_L0 M 108 .int i = if ab_inB i 8 = true then some (M 108 i.toNatClampNeg) else none := rfl
theorem si_108 (i : Int32) : ab_si 108 .int i = ab_inB i 8 := rfl
theorem ln_109 : ab_len scr ab_L0 109 = some 8 := rfl
theorem ar_109 : ab_ar ab_L0 109 .int = some 8 := rfl
theorem al_109 (i : Int32) : ab_ald scr ab_L0 M 109 .int i = if ab_inB i 8 = true then some (M 109 i.toNatClampNeg) else none := rfl
theorem si_109 (i : Int32) : ab_si 109 .int i = ab_inB i 8 := rfl
theorem ln_110 : ab_len scr ab_L0 110 = some 8 := rfl
theorem ar_110 : ab_ar ab_L0 110 .int = some 8 := rfl
theorem al_110 (i : Int32) : ab_ald scr ab_L0 M 110 .int i = if ab_inB i 8 = true then some (M 110 i.toNatClampNeg) else none := rfl
theorem si_110 (i : Int32) : ab_si 110 .int i = ab_inB i 8 := rfl
theorem ln_111 : ab_len scr ab_L0 111 = some 8 := rfl
theorem ar_111 : ab_ar ab_L0 111 .int = some 8 := rfl
theorem al_111 (i : Int32) : ab_ald scr ab_L0 M 111 .int i = if ab_inB i 8 = true then some (M 111 i.toNatClampNeg) else none := rfl
theorem si_111 (i : Int32) : ab_si 111 .int i = ab_inB i 8 := rfl
theorem ln_112 : ab_len scr ab_L0 112 = some 8 := rfl
theorem ar_112 : ab_ar ab_L0 112 .int = some 8 := rfl
theorem al_112 (i : Int32) : ab_ald scr ab_L0 M 112 .int i = if ab_inB i 8 = true then some (M 112 i.toNatClampNeg) else none := rfl
theorem si_112 (i : Int32) : ab_si 112 .int i = ab_inB i 8 := rfl
theorem ln_113 : ab_len scr ab_L0 113 = some 8 := rfl
theorem ar_113 : ab_ar ab_L0 113 .int = some 8 := rfl
theorem al_113 (i : Int32) : ab_ald scr ab_L0 M 113 .int i = if ab_inB i 8 = true then some (M 113 i.toNatClampNeg) else none := rfl
theorem si_113 (i : Int32) : ab_si 113 .int i = ab_inB i 8 := rfl
theorem ln_114 : ab_len scr ab_L0 114 = some 12 := rfl
theorem ar_114 : ab_ar ab_L0 114 .int = some 12 := rfl
theorem al_114 (i : Int32) : ab_ald scr ab_L0 M 114 .int i = if ab_inB i 12 = true then some (M 114 i.toNatClampNeg) else none := rfl
theorem si_114 (i : Int32) : ab_si 114 .int i = ab_inB i 12 := rfl
theorem rc_115 : ab_rc ab_L0 115 = some 8 := rfl
theorem gf_115_0 : ab_gF ab_L0 M 115 8 0 = some (.ref 116) := rfl
theorem gf_115_1 : ab_gF ab_L0 M 115 8 1 = some (.int (M 115 1)) := rfl
theorem pt_115_1 (x : Int32) : ab_pt 115 8 1 x = true := ab_pti rfl rfl
theorem gf_115_2 : ab_gF ab_L0 M 115 8 2 = some (.int (M 115 2)) := rfl
theorem pt_115_2 (x : Int32) : ab_pt 115 8 2 x = true := ab_pti rfl rfl
theorem ln_116 : ab_len scr ab_L0 116 = some 40 := rfl
theorem ar_116 : ab_ar ab_L0 116 .int = some 40 := rfl
theorem al_116 (i : Int32) : ab_ald scr ab_L0 M 116 .int i = if ab_inB i 40 = true then some (M 116 i.toNatClampNeg) else none := rfl
theorem si_116 (i : Int32) : ab_si 116 .int i = ab_inB i 40 := rfl
theorem rc_117 : ab_rc ab_L0 117 = some 8 := rfl
theorem gf_117_0 : ab_gF ab_L0 M 117 8 0 = some (.ref 118) := rfl
theorem gf_117_1 : ab_gF ab_L0 M 117 8 1 = some (.int (M 117 1)) := rfl
theorem pt_117_1 (x : Int32) : ab_pt 117 8 1 x = true := ab_pti rfl rfl
theorem gf_117_2 : ab_gF ab_L0 M 117 8 2 = some (.int (M 117 2)) := rfl
theorem pt_117_2 (x : Int32) : ab_pt 117 8 2 x = true := ab_pti rfl rfl
theorem ln_118 : ab_len scr ab_L0 118 = some 40 := rfl
theorem ar_118 : ab_ar ab_L0 118 .int = some 40 := rfl
theorem al_118 (i : Int32) : ab_ald scr ab_L0 M 118 .int i = if ab_inB i 40 = true then some (M 118 i.toNatClampNeg) else none := rfl
theorem si_118 (i : Int32) : ab_si 118 .int i = ab_inB i 40 := rfl
theorem rc_119 : ab_rc ab_L0 119 = some 8 := rfl
theorem gf_119_0 : ab_gF ab_L0 M 119 8 0 = some (.ref 120) := rfl
theorem gf_119_1 : ab_gF ab_L0 M 119 8 1 = some (.int (M 119 1)) := rfl
theorem pt_119_1 (x : Int32) : ab_pt 119 8 1 x = true := ab_pti rfl rfl
theorem gf_119_2 : ab_gF ab_L0 M 119 8 2 = some (.int (M 119 2)) := rfl
theorem pt_119_2 (x : Int32) : ab_pt 119 8 2 x = true := ab_pti rfl rfl
theorem ln_120 : ab_len scr ab_L0 120 = some 40 := rfl
theorem ar_120 : ab_ar ab_L0 120 .int = some 40 := rfl
theorem al_120 (i : Int32) : ab_ald scr ab_L0 M 120 .int i = if ab_inB i 40 = true then some (M 120 i.toNatClampNeg) else none := rfl
theorem si_120 (i : Int32) : ab_si 120 .int i = ab_inB i 40 := rfl
theorem rc_121 : ab_rc ab_L0 121 = some 8 := rfl
theorem gf_121_0 : ab_gF ab_L0 M 121 8 0 = some (.ref 122) := rfl
theorem gf_121_1 : ab_gF ab_L0 M 121 8 1 = some (.int (M 121 1)) := rfl
theorem pt_121_1 (x : Int32) : ab_pt 121 8 1 x = true := ab_pti rfl rfl
theorem gf_121_2 : ab_gF ab_L0 M 121 8 2 = some (.int (M 121 2)) := rfl
theorem pt_121_2 (x : Int32) : ab_pt 121 8 2 x = true := ab_pti rfl rfl
theorem ln_122 : ab_len scr ab_L0 122 = some 40 := rfl
theorem ar_122 : ab_ar ab_L0 122 .int = some 40 := rfl
theorem al_122 (i : Int32) : ab_ald scr ab_L0 M 122 .int i = if ab_inB i 40 = true then some (M 122 i.toNatClampNeg) else none := rfl
theorem si_122 (i : Int32) : ab_si 122 .int i = ab_inB i 40 := rfl
theorem rc_123 : ab_rc ab_L0 123 = some 12 := rfl
theorem gf_123_0 : ab_gF ab_L0 M 123 12 0 = some (.ref 124) := rfl
theorem gf_123_1 : ab_gF ab_L0 M 123 12 1 = some (.int (M 123 1)) := rfl
theorem pt_123_1 (x : Int32) : ab_pt 123 12 1 x = true := ab_pti rfl rfl
theorem gf_123_2 : ab_gF ab_L0 M 123 12 2 = some (.int (M 123 2)) := rfl
theorem pt_123_2 (x : Int32) : ab_pt 123 12 2 x = true := ab_pti rfl rfl
theorem gf_123_3 : ab_gF ab_L0 M 123 12 3 = some (.int (M 123 3)) := rfl
theorem pt_123_3 (x : Int32) : ab_pt 123 12 3 x = true := ab_pti rfl rfl
theorem gf_123_4 : ab_gF ab_L0 M 123 12 4 = some (.int (M 123 4)) := rfl
theorem pt_123_4 (x : Int32) : ab_pt 123 12 4 x = true := ab_pti rfl rfl
theorem gf_123_5 : ab_gF ab_L0 M 123 12 5 = some (.int (M 123 5)) := rfl
theorem pt_123_5 (x : Int32) : ab_pt 123 12 5 x = true := ab_pti rfl rfl
theorem gf_123_6 : ab_gF ab_L0 M 123 12 6 = some (.int (M 123 6)) := rfl
theorem pt_123_6 (x : Int32) : ab_pt 123 12 6 x = true := ab_pti rfl rfl
theorem gf_123_7 : ab_gF ab_L0 M 123 12 7 = some (.int (M 123 7)) := rfl
theorem pt_123_7 (x : Int32) : ab_pt 123 12 7 x = true := ab_pti rfl rfl
theorem gf_123_8 : ab_gF ab_L0 M 123 12 8 = some (.int (M 123 8)) := rfl
theorem pt_123_8 (x : Int32) : ab_pt 123 12 8 x = true := ab_pti rfl rfl
theorem gf_123_9 : ab_gF ab_L0 M 123 12 9 = some (.ref 125) := rfl
theorem gf_123_10 : ab_gF ab_L0 M 123 12 10 = some (.ref 126) := rfl
theorem gf_123_11 : ab_gF ab_L0 M 123 12 11 = some (.ref 127) := rfl
theorem gf_123_12 : ab_gF ab_L0 M 123 12 12 = some (.ref 128) := rfl
theorem gf_123_13 : ab_gF ab_L0 M 123 12 13 = some (.int (M 123 13)) := rfl
theorem pt_123_13_0 : ab_pt 123 12 13 0 = true := rfl
theorem pt_123_13_1 : ab_pt 123 12 13 1 = true := rfl
theorem gf_123_14 : ab_gF ab_L0 M 123 12 14 = some (.int (M 123 14)) := rfl
theorem pt_123_14_0 : ab_pt 123 12 14 0 = true := rfl
theorem pt_123_14_1 : ab_pt 123 12 14 1 = true := rfl
theorem gf_123_15 : ab_gF ab_L0 M 123 12 15 = some (.ref 129) := rfl
theorem gf_123_16 : ab_gF ab_L0 M 123 12 16 = some (.ref 130) := rfl
theorem gf_123_17 : ab_gF ab_L0 M 123 12 17 = some (.ref 131) := rfl
theorem gf_123_18 : ab_gF ab_L0 M 123 12 18 = some (.ref 132) := rfl
theorem gf_123_19 : ab_gF ab_L0 M 123 12 19 = some (.ref 133) := rfl
theorem gf_123_20 : ab_gF ab_L0 M 123 12 20 = some (.ref 134) := rfl
theorem gf_123_21 : ab_gF ab_L0 M 123 12 21 = some (.ref 135) := rfl
theorem gf_123_22 : ab_gF ab_L0 M 123 12 22 = some (.ref 136) := rfl
theorem gf_123_23 : ab_gF ab_L0 M 123 12 23 = some (.ref 137) := rfl
theorem gf_123_24 : ab_gF ab_L0 M 123 12 24 = some (.ref 138) := rfl
theorem gf_123_25 : ab_gF ab_L0 M 123 12 25 = some (.int (M 123 25)) := rfl
theorem pt_123_25 (x : Int32) : ab_pt 123 12 25 x = true := ab_pti rfl rfl
theorem gf_123_26 : ab_gF ab_L0 M 123 12 26 = some (.ref 139) := rfl
theorem gf_123_27 : ab_gF ab_L0 M 123 12 27 = some (.int (M 123 27)) := rfl
theorem pt_123_27 (x : Int32) : ab_pt 123 12 27 x = true := ab_pti rfl rfl
theorem gf_123_28 : ab_gF ab_L0 M 123 12 28 = some (.int (M 123 28)) := rfl
theorem pt_123_28 (x : Int32) : ab_pt 123 12 28 x = true := ab_pti rfl rfl
theorem gf_123_29 : ab_gF ab_L0 M 123 12 29 = some (.ref 140) := rfl
theorem gf_123_30 : ab_gF ab_L0 M 123 12 30 = some (.int (M 123 30)) := rfl
theorem pt_123_30 (x : Int32) : ab_pt 123 12 30 x = true := ab_pti rfl rfl
theorem gf_123_31 : ab_gF ab_L0 M 123 12 31 = some (.int (M 123 31)) := rfl
theorem pt_123_31 (x : Int32) : ab_pt 123 12 31 x = true := ab_pti rfl rfl
theorem gf_123_32 : ab_gF ab_L0 M 123 12 32 = some (.int (M 123 32)) := rfl
theorem pt_123_32 (x : Int32) : ab_pt 123 12 32 x = true := ab_pti rfl rfl
theorem gf_123_33 : ab_gF ab_L0 M 123 12 33 = some (.int (M 123 33)) := rfl
theorem pt_123_33 (x : Int32) : ab_pt 123 12 33 x = true := ab_pti rfl rfl
theorem gf_123_34 : ab_gF ab_L0 M 123 12 34 = some (.int (M 123 34)) := rfl
theorem pt_123_34_0 : ab_pt 123 12 34 0 = true := rfl
theorem pt_123_34_1 : ab_pt 123 12 34 1 = true := rfl
theorem gf_123_35 : ab_gF ab_L0 M 123 12 35 = some (.ref 141) := rfl
theorem gf_123_36 : ab_gF ab_L0 M 123 12 36 = some (.ref 142) := rfl
theorem gf_123_37 : ab_gF ab_L0 M 123 12 37 = some (.ref 143) := rfl
theorem gf_123_38 : ab_gF ab_L0 M 123 12 38 = some (.int (M 123 38)) := rfl
theorem pt_123_38 (x : Int32) : ab_pt 123 12 38 x = true := ab_pti rfl rfl
theorem gf_123_39 : ab_gF ab_L0 M 123 12 39 = some (.int (M 123 39)) := rfl
theorem pt_123_39 (x : Int32) : ab_pt 123 12 39 x = true := ab_pti rfl rfl
theorem gf_123_40 : ab_gF ab_L0 M 123 12 40 = some (.int (M 123 40)) := rfl
theorem pt_123_40 (x : Int32) : ab_pt 123 12 40 x = true := ab_pti rfl rfl
theorem gf_123_41 : ab_gF ab_L0 M 123 12 41 = some (.ref 144) := rfl
theorem gf_123_42 : ab_gF ab_L0 M 123 12 42 = some (.ref 145) := rfl
theorem gf_123_43 : ab_gF ab_L0 M 123 12 43 = some (.ref 146) := rfl
theorem gf_123_44 : ab_gF ab_L0 M 123 12 44 = some (.ref 147) := rfl
theorem gf_123_45 : ab_gF ab_L0 M 123 12 45 = some (.ref 148) := rfl
theorem gf_123_46 : ab_gF ab_L0 M 123 12 46 = some (.ref 149) := rfl
theorem gf_123_47 : ab_gF ab_L0 M 123 12 47 = some (.int (M 123 47)) := rfl
theorem pt_123_47 (x : Int32) : ab_pt 123 12 47 x = true := ab_pti rfl rfl
theorem ln_124 : ab_len scr ab_L0 124 = some 320 := rfl
theorem ar_124 : ab_ar ab_L0 124 .int = some 320 := rfl
theorem al_124 (i : Int32) : ab_ald scr ab_L0 M 124 .int i = if ab_inB i 320 = true then some (M 124 i.toNatClampNeg) else none := rfl
theorem si_124 (i : Int32) : ab_si 124 .int i = ab_inB i 320 := rfl
theorem ln_125 : ab_len scr ab_L0 125 = some 6 := rfl
theorem ar_125 : ab_ar ab_L0 125 .int = some 6 := rfl
theorem al_125 (i : Int32) : ab_ald scr ab_L0 M 125 .int i = if ab_inB i 6 = true then some (M 125 i.toNatClampNeg) else none := rfl
theorem si_125 (i : Int32) : ab_si 125 .int i = ab_inB i 6 := rfl
theorem ln_126 : ab_len scr ab_L0 126 = some 21 := rfl
theorem ar_126 : ab_ar ab_L0 126 .int = some 21 := rfl
theorem al_126 (i : Int32) : ab_ald scr ab_L0 M 126 .int i = if ab_inB i 21 = true then some (M 126 i.toNatClampNeg) else none := rfl
theorem si_126 (i : Int32) : ab_si 126 .int i = ab_inB i 21 := rfl
theorem ln_127 : ab_len scr ab_L0 127 = some 300 := rfl
theorem ar_127 : ab_ar ab_L0 127 .int = some 300 := rfl
theorem al_127 (i : Int32) : ab_ald scr ab_L0 M 127 .int i = if ab_inB i 300 = true then some (M 127 i.toNatClampNeg) else none := rfl
theorem si_127 (i : Int32) : ab_si 127 .int i = ab_inB i 300 := rfl
theorem ln_128 : ab_len scr ab_L0 128 = some 74 := rfl
theorem ar_128 : ab_ar ab_L0 128 .int = some 74 := rfl
theorem al_128 (i : Int32) : ab_ald scr ab_L0 M 128 .int i = if ab_inB i 74 = true then some (M 128 i.toNatClampNeg) else none := rfl
theorem si_128 (i : Int32) : ab_si 128 .int i = ab_inB i 74 := rfl
theorem ln_129 : ab_len scr ab_L0 129 = some 8 := rfl
theorem bl_129 (i : Int32) : ab_bl scr M 129 i = if ab_inB i 8 = true then some (M 129 i.toNatClampNeg) else none := rfl
theorem bz_129 (i : Int32) : ab_si 129 .boolean i = ab_inB i 8 ∧ ab_ar ab_L0 129 .byte = none := ⟨rfl, rfl⟩
theorem ln_130 : ab_len scr ab_L0 130 = some 8 := rfl
theorem ar_130 : ab_ar ab_L0 130 .int = some 8 := rfl
theorem al_130 (i : Int32) : ab_ald scr ab_L0 M 130 .int i = if ab_inB i 8 = true then some (M 130 i.toNatClampNeg) else none := rfl
theorem si_130 (i : Int32) : ab_si 130 .int i = ab_inB i 8 := rfl
theorem ln_131 : ab_len scr ab_L0 131 = some 8 := rfl
theorem ar_131 : ab_ar ab_L0 131 .int = some 8 := rfl
theorem al_131 (i : Int32) : ab_ald scr ab_L0 M 131 .int i = if ab_inB i 8 = true then some (M 131 i.toNatClampNeg) else none := rfl
theorem si_131 (i : Int32) : ab_si 131 .int i = ab_inB i 8 := rfl
theorem ln_132 : ab_len scr ab_L0 132 = some 8 := rfl
theorem ar_132 : ab_ar ab_L0 132 .int = some 8 := rfl
theorem al_132 (i : Int32) : ab_ald scr ab_L0 M 132 .int i = if ab_inB i 8 = true then some (M 132 i.toNatClampNeg) else none := rfl
theorem si_132 (i : Int32) : ab_si 132 .int i = ab_inB i 8 := rfl
theorem ln_133 : ab_len scr ab_L0 133 = some 8 := rfl
theorem ar_133 : ab_ar ab_L0 133 .int = some 8 := rfl
theorem al_133 (i : Int32) : ab_ald scr ab_L0 M 133 .int i = if ab_inB i 8 = true then some (M 133 i.toNatClampNeg) else none := rfl
theorem si_133 (i : Int32) : ab_si 133 .int i = ab_inB i 8 := rfl
theorem ln_134 : ab_len scr ab_L0 134 = some 8 := rfl
theorem ar_134 : ab_ar ab_L0 134 .int = some 8 := rfl
theorem al_134 (i : Int32) : ab_ald scr ab_L0 M 134 .int i = if ab_inB i 8 = true then some (M 134 i.toNatClampNeg) else none := rfl
theorem si_134 (i : Int32) : ab_si 134 .int i = ab_inB i 8 := rfl
theorem ln_135 : ab_len scr ab_L0 135 = some 8 := rfl
theorem ar_135 : ab_ar ab_L0 135 .int = some 8 := rfl
theorem al_135 (i : Int32) : ab_ald scr ab_L0 M 135 .int i = if ab_inB i 8 = true then some (M 135 i.toNatClampNeg) else none := rfl
theorem si_135 (i : Int32) : ab_si 135 .int i = ab_inB i 8 := rfl
theorem ln_136 : ab_len scr ab_L0 136 = some 8 := rfl
theorem ar_136 : ab_ar ab_L0 136 .int = some 8 := rfl
theorem al_136 (i : Int32) : ab_ald scr ab_L0 M 136 .int i = if ab_inB i 8 = true then some (M 136 i.toNatClampNeg) else none := rfl
theorem si_136 (i : Int32) : ab_si 136 .int i = ab_inB i 8 := rfl
theorem ln_137 : ab_len scr ab_L0 137 = some 8 := rfl
theorem ar_137 : ab_ar ab_L0 137 .int = some 8 := rfl
theorem al_137 (i : Int32) : ab_ald scr ab_L0 M 137 .int i = if ab_inB i 8 = true then some (M 137 i.toNatClampNeg) else none := rfl
theorem si_137 (i : Int32) : ab_si 137 .int i = ab_inB i 8 := rfl
theorem ln_138 : ab_len scr ab_L0 138 = some 8 := rfl
theorem ar_138 : ab_ar ab_L0 138 .int = some 8 := rfl
theorem al_138 (i : Int32) : ab_ald scr ab_L0 M 138 .int i = if ab_inB i 8 = true then some (M 138 i.toNatClampNeg) else none := rfl
theorem si_138 (i : Int32) : ab_si 138 .int i = ab_inB i 8 := rfl
theorem ln_139 : ab_len scr ab_L0 139 = some 8 := rfl
theorem ar_139 : ab_ar ab_L0 139 .int = some 8 := rfl
theorem al_139 (i : Int32) : ab_ald scr ab_L0 M 139 .int i = if ab_inB i 8 = true then some (M 139 i.toNatClampNeg) else none := rfl
theorem si_139 (i : Int32) : ab_si 139 .int i = ab_inB i 8 := rfl
theorem ln_140 : ab_len scr ab_L0 140 = some 200 := rfl
theorem ar_140 : ab_ar ab_L0 140 .int = some 200 := rfl
theorem al_140 (i : Int32) : ab_ald scr ab_L0 M 140 .int i = if ab_inB i 200 = true then some (M 140 i.toNatClampNeg) else none := rfl
theorem si_140 (i : Int32) : ab_si 140 .int i = ab_inB i 200 := rfl
theorem ln_141 : ab_len scr ab_L0 141 = some 40 := rfl
theorem ar_141 : ab_ar ab_L0 141 .int = some 40 := rfl
theorem al_141 (i : Int32) : ab_ald scr ab_L0 M 141 .int i = if ab_inB i 40 = true then some (M 141 i.toNatClampNeg) else none := rfl
theorem si_141 (i : Int32) : ab_si 141 .int i = ab_inB i 40 := rfl
theorem ln_142 : ab_len scr ab_L0 142 = some 6 := rfl
theorem ar_142 : ab_ar ab_L0 142 .int = some 6 := rfl
theorem al_142 (i : Int32) : ab_ald scr ab_L0 M 142 .int i = if ab_inB i 6 = true then some (M 142 i.toNatClampNeg) else none := rfl
theorem si_142 (i : Int32) : ab_si 142 .int i = ab_inB i 6 := rfl
theorem ln_143 : ab_len scr ab_L0 143 = some 6 := rfl
theorem ar_143 : ab_ar ab_L0 143 .int = some 6 := rfl
theorem al_143 (i : Int32) : ab_ald scr ab_L0 M 143 .int i = if ab_inB i 6 = true then some (M 143 i.toNatClampNeg) else none := rfl
theorem si_143 (i : Int32) : ab_si 143 .int i = ab_inB i 6 := rfl
theorem ln_144 : ab_len scr ab_L0 144 = some 60 := rfl
theorem ar_144 : ab_ar ab_L0 144 .int = some 60 := rfl
theorem al_144 (i : Int32) : ab_ald scr ab_L0 M 144 .int i = if ab_inB i 60 = true then some (M 144 i.toNatClampNeg) else none := rfl
theorem si_144 (i : Int32) : ab_si 144 .int i = ab_inB i 60 := rfl
theorem ln_145 : ab_len scr ab_L0 145 = some 256 := rfl
theorem ar_145 : ab_ar ab_L0 145 .int = some 256 := rfl
theorem al_145 (i : Int32) : ab_ald scr ab_L0 M 145 .int i = if ab_inB i 256 = true then some (M 145 i.toNatClampNeg) else none := rfl
theorem si_145 (i : Int32) : ab_si 145 .int i = ab_inB i 256 := rfl
theorem ln_146 : ab_len scr ab_L0 146 = some 2 := rfl
theorem bl_146 (i : Int32) : ab_bl scr M 146 i = if ab_inB i 2 = true then some (M 146 i.toNatClampNeg) else none := rfl
theorem bz_146 (i : Int32) : ab_si 146 .boolean i = ab_inB i 2 ∧ ab_ar ab_L0 146 .byte = none := ⟨rfl, rfl⟩
theorem ln_147 : ab_len scr ab_L0 147 = some 4 := rfl
theorem ar_147 : ab_ar ab_L0 147 .int = some 4 := rfl
theorem al_147 (i : Int32) : ab_ald scr ab_L0 M 147 .int i = if ab_inB i 4 = true then some (M 147 i.toNatClampNeg) else none := rfl
theorem si_147 (i : Int32) : ab_si 147 .int i = ab_inB i 4 := rfl
theorem ln_148 : ab_len scr ab_L0 148 = some 4 := rfl
theorem ar_148 : ab_ar ab_L0 148 .int = some 4 := rfl
theorem al_148 (i : Int32) : ab_ald scr ab_L0 M 148 .int i = if ab_inB i 4 = true then some (M 148 i.toNatClampNeg) else none := rfl
theorem si_148 (i : Int32) : ab_si 148 .int i = ab_inB i 4 := rfl
theorem ln_149 : ab_len scr ab_L0 149 = some 160 := rfl
theorem ar_149 : ab_ar ab_L0 149 .int = some 160 := rfl
theorem al_149 (i : Int32) : ab_ald scr ab_L0 M 149 .int i = if ab_inB i 160 = true then some (M 149 i.toNatClampNeg) else none := rfl
theorem si_149 (i : Int32) : ab_si 149 .int i = ab_inB i 160 := rfl
theorem al_2000 (i : Int32) : ab_ald scr ab_L0 M 2000 .int i = if ab_inB i 8 = true then some (([0, 1, 1, 1, 0, 0, 0, -99999] : List Int32).getD i.toNatClampNeg 0) else none := by
  show (if FieldType.int = FieldType.int ∧ 1000 ≤ 2000 ∧ ab_inB i 8 = true then some (([0, 1, 1, 1, 0, 0, 0, -99999] : List Int32).getD i.toNatClampNeg 0) else none) = _
  simp
theorem al_2001 (i : Int32) : ab_ald scr ab_L0 M 2001 .int i = if ab_inB i 8 = true then some (([239, 240, 99, 99, 999, 9, 1, 99999] : List Int32).getD i.toNatClampNeg 0) else none := by
  show (if FieldType.int = FieldType.int ∧ 1000 ≤ 2001 ∧ ab_inB i 8 = true then some (([239, 240, 99, 99, 999, 9, 1, 99999] : List Int32).getD i.toNatClampNeg 0) else none) = _
  simp
theorem seatL : ∀ p, p < 8 → ab_L0[33 + p]? = some (.inl (7, [none, none, none, none, none, none, none, none]))
  | 0, _ => rfl
  | 1, _ => rfl
  | 2, _ => rfl
  | 3, _ => rfl
  | 4, _ => rfl
  | 5, _ => rfl
  | 6, _ => rfl
  | 7, _ => rfl
  | n + 8, h => absurd h (by omega)
theorem roundL : ∀ p, p < 40 → ab_L0[41 + p]? = some (.inl (6, [none, none, none, none, none]))
  | 0, _ => rfl
  | 1, _ => rfl
  | 2, _ => rfl
  | 3, _ => rfl
  | 4, _ => rfl
  | 5, _ => rfl
  | 6, _ => rfl
  | 7, _ => rfl
  | 8, _ => rfl
  | 9, _ => rfl
  | 10, _ => rfl
  | 11, _ => rfl
  | 12, _ => rfl
  | 13, _ => rfl
  | 14, _ => rfl
  | 15, _ => rfl
  | 16, _ => rfl
  | 17, _ => rfl
  | 18, _ => rfl
  | 19, _ => rfl
  | 20, _ => rfl
  | 21, _ => rfl
  | 22, _ => rfl
  | 23, _ => rfl
  | 24, _ => rfl
  | 25, _ => rfl
  | 26, _ => rfl
  | 27, _ => rfl
  | 28, _ => rfl
  | 29, _ => rfl
  | 30, _ => rfl
  | 31, _ => rfl
  | 32, _ => rfl
  | 33, _ => rfl
  | 34, _ => rfl
  | 35, _ => rfl
  | 36, _ => rfl
  | 37, _ => rfl
  | 38, _ => rfl
  | 39, _ => rfl
  | n + 40, h => absurd h (by omega)
theorem gf_seat {p : Nat} (hp : p < 8) {k : Nat} (hk : k < 8) : ab_gF ab_L0 M (33 + p) 7 k = some (.int (M (33 + p) k)) := by
  have h := seatL
  unfold ab_gF
  rw [h p hp]
  have h2 : ∀ k, k < 8 → ([none, none, none, none, none, none, none, none] : List (Option (Option Nat)))[k]? = some none := by decide
  simp only [if_true, h2 k hk]
theorem gf_round {p : Nat} (hp : p < 40) {k : Nat} (hk : k < 5) : ab_gF ab_L0 M (41 + p) 6 k = some (.int (M (41 + p) k)) := by
  have h := roundL
  unfold ab_gF
  rw [h p hp]
  have h2 : ∀ k, k < 5 → ([none, none, none, none, none] : List (Option (Option Nat)))[k]? = some none := by decide
  simp only [if_true, h2 k hk]
theorem pt_seat {p : Nat} (hp : p < 8) {k : Nat} (hk : k < 8) (x : Int32) : ab_pt (33 + p) 7 k x = true := by
  have h := seatL
  have h2 : ∀ k, k < 8 → ([none, none, none, none, none, none, none, none] : List (Option (Option Nat)))[k]? = some none ∧ ab_fty 7 k = .int ∧ ab_fin 7 k = false := by decide +kernel
  unfold ab_pt
  obtain ⟨g1, g2, g3⟩ := h2 k hk
  rw [h p hp, g2, g3]
  simp only [g1]
  rw [ab_fit_int]
  rfl
theorem pt_round {p : Nat} (hp : p < 40) {k : Nat} (hk : k < 5) (x : Int32) : ab_pt (41 + p) 6 k x = true := by
  have h := roundL
  have h2 : ∀ k, k < 5 → ([none, none, none, none, none] : List (Option (Option Nat)))[k]? = some none ∧ ab_fty 6 k = .int ∧ ab_fin 6 k = false := by decide +kernel
  unfold ab_pt
  obtain ⟨g1, g2, g3⟩ := h2 k hk
  rw [h p hp, g2, g3]
  simp only [g1]
  rw [ab_fit_int]
  rfl
theorem rc_seat {p : Nat} (hp : p < 8) : ab_rc ab_L0 (33 + p) = some 7 := by
  have h : ∀ p, p < 8 → ab_rc ab_L0 (33 + p) = some 7 := by decide +kernel
  exact h p hp
theorem rc_round {p : Nat} (hp : p < 40) : ab_rc ab_L0 (41 + p) = some 6 := by
  have h : ∀ p, p < 40 → ab_rc ab_L0 (41 + p) = some 6 := by decide +kernel
  exact h p hp
theorem qe_31 {p : Nat} (hp : p < 8) : ab_qe 31 (nI p) = some (.ref (33 + p)) := by
  have h : ∀ p, p < 8 → ab_qe 31 (nI p) = some (.ref (33 + p)) := by decide +kernel
  exact h p hp
theorem qe_32 {p : Nat} (hp : p < 40) : ab_qe 32 (nI p) = some (.ref (41 + p)) := by
  have h : ∀ p, p < 40 → ab_qe 32 (nI p) = some (.ref (41 + p)) := by decide +kernel
  exact h p hp
theorem qe_29 {p : Nat} (hp : p < 4) : ab_qe 29 (nI p) = some (.ref (115 + 2 * p)) := by
  have h : ∀ p, p < 4 → ab_qe 29 (nI p) = some (.ref (115 + 2 * p)) := by decide +kernel
  exact h p hp
theorem qe_28 {p : Nat} (hp : p < 2) : ab_qe 28 (nI p) = some (.ref (89 + 13 * p)) := by
  have h : ∀ p, p < 2 → ab_qe 28 (nI p) = some (.ref (89 + 13 * p)) := by decide +kernel
  exact h p hp
theorem qe_5 {p : Nat} (hp : p < 8) : ab_qe 5 (nI p) = some (.ref (6 + p)) := by
  have h : ∀ p, p < 8 → ab_qe 5 (nI p) = some (.ref (6 + p)) := by decide +kernel
  exact h p hp
theorem al_f5 {w : Nat} (hw : w < 8) (i : Int32) : ab_ald scr ab_L0 M (6 + w) .int i = if ab_inB i 8 = true then some (M (6 + w) i.toNatClampNeg) else none := by
  have h : ∀ w, w < 8 → ab_ar ab_L0 (6 + w) .int = some 8 := by decide +kernel
  unfold ab_ald
  rw [h w hw]
theorem si_f5 {w : Nat} (hw : w < 8) (i : Int32) : ab_si (6 + w) .int i = ab_inB i 8 := by
  have h : ∀ w, w < 8 → ab_ar ab_L0 (6 + w) .int = some 8 := by decide +kernel
  unfold ab_si
  rw [h w hw]
theorem qe_17 {p : Nat} (hp : p < 8) : ab_qe 17 (nI p) = some (.ref (18 + p)) := by
  have h : ∀ p, p < 8 → ab_qe 17 (nI p) = some (.ref (18 + p)) := by decide +kernel
  exact h p hp
theorem al_f17 {w : Nat} (hw : w < 8) (i : Int32) : ab_ald scr ab_L0 M (18 + w) .int i = if ab_inB i 8 = true then some (M (18 + w) i.toNatClampNeg) else none := by
  have h : ∀ w, w < 8 → ab_ar ab_L0 (18 + w) .int = some 8 := by decide +kernel
  unfold ab_ald
  rw [h w hw]
theorem si_f17 {w : Nat} (hw : w < 8) (i : Int32) : ab_si (18 + w) .int i = ab_inB i 8 := by
  have h : ∀ w, w < 8 → ab_ar ab_L0 (18 + w) .int = some 8 := by decide +kernel
  unfold ab_si
  rw [h w hw]
theorem qe_91 {p : Nat} (hp : p < 8) : ab_qe 91 (nI p) = some (.ref (92 + p)) := by
  have h : ∀ p, p < 8 → ab_qe 91 (nI p) = some (.ref (92 + p)) := by decide +kernel
  exact h p hp
theorem al_f91 {w : Nat} (hw : w < 8) (i : Int32) : ab_ald scr ab_L0 M (92 + w) .int i = if ab_inB i 8 = true then some (M (92 + w) i.toNatClampNeg) else none := by
  have h : ∀ w, w < 8 → ab_ar ab_L0 (92 + w) .int = some 8 := by decide +kernel
  unfold ab_ald
  rw [h w hw]
theorem si_f91 {w : Nat} (hw : w < 8) (i : Int32) : ab_si (92 + w) .int i = ab_inB i 8 := by
  have h : ∀ w, w < 8 → ab_ar ab_L0 (92 + w) .int = some 8 := by decide +kernel
  unfold ab_si
  rw [h w hw]
theorem qe_104 {p : Nat} (hp : p < 8) : ab_qe 104 (nI p) = some (.ref (105 + p)) := by
  have h : ∀ p, p < 8 → ab_qe 104 (nI p) = some (.ref (105 + p)) := by decide +kernel
  exact h p hp
theorem al_f104 {w : Nat} (hw : w < 8) (i : Int32) : ab_ald scr ab_L0 M (105 + w) .int i = if ab_inB i 8 = true then some (M (105 + w) i.toNatClampNeg) else none := by
  have h : ∀ w, w < 8 → ab_ar ab_L0 (105 + w) .int = some 8 := by decide +kernel
  unfold ab_ald
  rw [h w hw]
theorem si_f104 {w : Nat} (hw : w < 8) (i : Int32) : ab_si (105 + w) .int i = ab_inB i 8 := by
  have h : ∀ w, w < 8 → ab_ar ab_L0 (105 + w) .int = some 8 := by decide +kernel
  unfold ab_si
  rw [h w hw]
end LAY
/-! small numbers -/
theorem cl_0 : (0 : Int32).toNatClampNeg = 0 := by decide
theorem ib_0 (n : Nat) : ab_inB 0 n = decide (0 < n) := by
  unfold ab_inB
  rw [show (0 : Int32).toInt = 0 by decide]
  exact decide_eq_decide.mpr (by omega)
theorem cl_1 : (1 : Int32).toNatClampNeg = 1 := by decide
theorem ib_1 (n : Nat) : ab_inB 1 n = decide (1 < n) := by
  unfold ab_inB
  rw [show (1 : Int32).toInt = 1 by decide]
  exact decide_eq_decide.mpr (by omega)
theorem cl_2 : (2 : Int32).toNatClampNeg = 2 := by decide
theorem ib_2 (n : Nat) : ab_inB 2 n = decide (2 < n) := by
  unfold ab_inB
  rw [show (2 : Int32).toInt = 2 by decide]
  exact decide_eq_decide.mpr (by omega)
theorem cl_3 : (3 : Int32).toNatClampNeg = 3 := by decide
theorem ib_3 (n : Nat) : ab_inB 3 n = decide (3 < n) := by
  unfold ab_inB
  rw [show (3 : Int32).toInt = 3 by decide]
  exact decide_eq_decide.mpr (by omega)
theorem cl_4 : (4 : Int32).toNatClampNeg = 4 := by decide
theorem ib_4 (n : Nat) : ab_inB 4 n = decide (4 < n) := by
  unfold ab_inB
  rw [show (4 : Int32).toInt = 4 by decide]
  exact decide_eq_decide.mpr (by omega)
theorem cl_5 : (5 : Int32).toNatClampNeg = 5 := by decide
theorem ib_5 (n : Nat) : ab_inB 5 n = decide (5 < n) := by
  unfold ab_inB
  rw [show (5 : Int32).toInt = 5 by decide]
  exact decide_eq_decide.mpr (by omega)
theorem cl_6 : (6 : Int32).toNatClampNeg = 6 := by decide
theorem ib_6 (n : Nat) : ab_inB 6 n = decide (6 < n) := by
  unfold ab_inB
  rw [show (6 : Int32).toInt = 6 by decide]
  exact decide_eq_decide.mpr (by omega)
theorem cl_7 : (7 : Int32).toNatClampNeg = 7 := by decide
theorem ib_7 (n : Nat) : ab_inB 7 n = decide (7 < n) := by
  unfold ab_inB
  rw [show (7 : Int32).toInt = 7 by decide]
  exact decide_eq_decide.mpr (by omega)
theorem cl_8 : (8 : Int32).toNatClampNeg = 8 := by decide
theorem ib_8 (n : Nat) : ab_inB 8 n = decide (8 < n) := by
  unfold ab_inB
  rw [show (8 : Int32).toInt = 8 by decide]
  exact decide_eq_decide.mpr (by omega)
theorem cl_9 : (9 : Int32).toNatClampNeg = 9 := by decide
theorem ib_9 (n : Nat) : ab_inB 9 n = decide (9 < n) := by
  unfold ab_inB
  rw [show (9 : Int32).toInt = 9 by decide]
  exact decide_eq_decide.mpr (by omega)
theorem cl_10 : (10 : Int32).toNatClampNeg = 10 := by decide
theorem ib_10 (n : Nat) : ab_inB 10 n = decide (10 < n) := by
  unfold ab_inB
  rw [show (10 : Int32).toInt = 10 by decide]
  exact decide_eq_decide.mpr (by omega)
theorem cl_11 : (11 : Int32).toNatClampNeg = 11 := by decide
theorem ib_11 (n : Nat) : ab_inB 11 n = decide (11 < n) := by
  unfold ab_inB
  rw [show (11 : Int32).toInt = 11 by decide]
  exact decide_eq_decide.mpr (by omega)
theorem cl_12 : (12 : Int32).toNatClampNeg = 12 := by decide
theorem ib_12 (n : Nat) : ab_inB 12 n = decide (12 < n) := by
  unfold ab_inB
  rw [show (12 : Int32).toInt = 12 by decide]
  exact decide_eq_decide.mpr (by omega)
theorem cl_13 : (13 : Int32).toNatClampNeg = 13 := by decide
theorem ib_13 (n : Nat) : ab_inB 13 n = decide (13 < n) := by
  unfold ab_inB
  rw [show (13 : Int32).toInt = 13 by decide]
  exact decide_eq_decide.mpr (by omega)
theorem cl_14 : (14 : Int32).toNatClampNeg = 14 := by decide
theorem ib_14 (n : Nat) : ab_inB 14 n = decide (14 < n) := by
  unfold ab_inB
  rw [show (14 : Int32).toInt = 14 by decide]
  exact decide_eq_decide.mpr (by omega)
theorem cl_15 : (15 : Int32).toNatClampNeg = 15 := by decide
theorem ib_15 (n : Nat) : ab_inB 15 n = decide (15 < n) := by
  unfold ab_inB
  rw [show (15 : Int32).toInt = 15 by decide]
  exact decide_eq_decide.mpr (by omega)
theorem cl_16 : (16 : Int32).toNatClampNeg = 16 := by decide
theorem ib_16 (n : Nat) : ab_inB 16 n = decide (16 < n) := by
  unfold ab_inB
  rw [show (16 : Int32).toInt = 16 by decide]
  exact decide_eq_decide.mpr (by omega)
theorem cl_17 : (17 : Int32).toNatClampNeg = 17 := by decide
theorem ib_17 (n : Nat) : ab_inB 17 n = decide (17 < n) := by
  unfold ab_inB
  rw [show (17 : Int32).toInt = 17 by decide]
  exact decide_eq_decide.mpr (by omega)
theorem cl_18 : (18 : Int32).toNatClampNeg = 18 := by decide
theorem ib_18 (n : Nat) : ab_inB 18 n = decide (18 < n) := by
  unfold ab_inB
  rw [show (18 : Int32).toInt = 18 by decide]
  exact decide_eq_decide.mpr (by omega)
theorem cl_19 : (19 : Int32).toNatClampNeg = 19 := by decide
theorem ib_19 (n : Nat) : ab_inB 19 n = decide (19 < n) := by
  unfold ab_inB
  rw [show (19 : Int32).toInt = 19 by decide]
  exact decide_eq_decide.mpr (by omega)
theorem cl_20 : (20 : Int32).toNatClampNeg = 20 := by decide
theorem ib_20 (n : Nat) : ab_inB 20 n = decide (20 < n) := by
  unfold ab_inB
  rw [show (20 : Int32).toInt = 20 by decide]
  exact decide_eq_decide.mpr (by omega)
theorem cl_21 : (21 : Int32).toNatClampNeg = 21 := by decide
theorem ib_21 (n : Nat) : ab_inB 21 n = decide (21 < n) := by
  unfold ab_inB
  rw [show (21 : Int32).toInt = 21 by decide]
  exact decide_eq_decide.mpr (by omega)
theorem cl_22 : (22 : Int32).toNatClampNeg = 22 := by decide
theorem ib_22 (n : Nat) : ab_inB 22 n = decide (22 < n) := by
  unfold ab_inB
  rw [show (22 : Int32).toInt = 22 by decide]
  exact decide_eq_decide.mpr (by omega)
theorem cl_23 : (23 : Int32).toNatClampNeg = 23 := by decide
theorem ib_23 (n : Nat) : ab_inB 23 n = decide (23 < n) := by
  unfold ab_inB
  rw [show (23 : Int32).toInt = 23 by decide]
  exact decide_eq_decide.mpr (by omega)
theorem cl_24 : (24 : Int32).toNatClampNeg = 24 := by decide
theorem ib_24 (n : Nat) : ab_inB 24 n = decide (24 < n) := by
  unfold ab_inB
  rw [show (24 : Int32).toInt = 24 by decide]
  exact decide_eq_decide.mpr (by omega)
theorem cl_25 : (25 : Int32).toNatClampNeg = 25 := by decide
theorem ib_25 (n : Nat) : ab_inB 25 n = decide (25 < n) := by
  unfold ab_inB
  rw [show (25 : Int32).toInt = 25 by decide]
  exact decide_eq_decide.mpr (by omega)
theorem cl_26 : (26 : Int32).toNatClampNeg = 26 := by decide
theorem ib_26 (n : Nat) : ab_inB 26 n = decide (26 < n) := by
  unfold ab_inB
  rw [show (26 : Int32).toInt = 26 by decide]
  exact decide_eq_decide.mpr (by omega)
theorem cl_27 : (27 : Int32).toNatClampNeg = 27 := by decide
theorem ib_27 (n : Nat) : ab_inB 27 n = decide (27 < n) := by
  unfold ab_inB
  rw [show (27 : Int32).toInt = 27 by decide]
  exact decide_eq_decide.mpr (by omega)
theorem cl_28 : (28 : Int32).toNatClampNeg = 28 := by decide
theorem ib_28 (n : Nat) : ab_inB 28 n = decide (28 < n) := by
  unfold ab_inB
  rw [show (28 : Int32).toInt = 28 by decide]
  exact decide_eq_decide.mpr (by omega)
theorem cl_29 : (29 : Int32).toNatClampNeg = 29 := by decide
theorem ib_29 (n : Nat) : ab_inB 29 n = decide (29 < n) := by
  unfold ab_inB
  rw [show (29 : Int32).toInt = 29 by decide]
  exact decide_eq_decide.mpr (by omega)
theorem cl_30 : (30 : Int32).toNatClampNeg = 30 := by decide
theorem ib_30 (n : Nat) : ab_inB 30 n = decide (30 < n) := by
  unfold ab_inB
  rw [show (30 : Int32).toInt = 30 by decide]
  exact decide_eq_decide.mpr (by omega)
theorem cl_31 : (31 : Int32).toNatClampNeg = 31 := by decide
theorem ib_31 (n : Nat) : ab_inB 31 n = decide (31 < n) := by
  unfold ab_inB
  rw [show (31 : Int32).toInt = 31 by decide]
  exact decide_eq_decide.mpr (by omega)
theorem cl_32 : (32 : Int32).toNatClampNeg = 32 := by decide
theorem ib_32 (n : Nat) : ab_inB 32 n = decide (32 < n) := by
  unfold ab_inB
  rw [show (32 : Int32).toInt = 32 by decide]
  exact decide_eq_decide.mpr (by omega)
theorem cl_33 : (33 : Int32).toNatClampNeg = 33 := by decide
theorem ib_33 (n : Nat) : ab_inB 33 n = decide (33 < n) := by
  unfold ab_inB
  rw [show (33 : Int32).toInt = 33 by decide]
  exact decide_eq_decide.mpr (by omega)
theorem cl_34 : (34 : Int32).toNatClampNeg = 34 := by decide
theorem ib_34 (n : Nat) : ab_inB 34 n = decide (34 < n) := by
  unfold ab_inB
  rw [show (34 : Int32).toInt = 34 by decide]
  exact decide_eq_decide.mpr (by omega)
theorem cl_35 : (35 : Int32).toNatClampNeg = 35 := by decide
theorem ib_35 (n : Nat) : ab_inB 35 n = decide (35 < n) := by
  unfold ab_inB
  rw [show (35 : Int32).toInt = 35 by decide]
  exact decide_eq_decide.mpr (by omega)
theorem cl_36 : (36 : Int32).toNatClampNeg = 36 := by decide
theorem ib_36 (n : Nat) : ab_inB 36 n = decide (36 < n) := by
  unfold ab_inB
  rw [show (36 : Int32).toInt = 36 by decide]
  exact decide_eq_decide.mpr (by omega)
theorem cl_37 : (37 : Int32).toNatClampNeg = 37 := by decide
theorem ib_37 (n : Nat) : ab_inB 37 n = decide (37 < n) := by
  unfold ab_inB
  rw [show (37 : Int32).toInt = 37 by decide]
  exact decide_eq_decide.mpr (by omega)
theorem cl_38 : (38 : Int32).toNatClampNeg = 38 := by decide
theorem ib_38 (n : Nat) : ab_inB 38 n = decide (38 < n) := by
  unfold ab_inB
  rw [show (38 : Int32).toInt = 38 by decide]
  exact decide_eq_decide.mpr (by omega)
theorem cl_39 : (39 : Int32).toNatClampNeg = 39 := by decide
theorem ib_39 (n : Nat) : ab_inB 39 n = decide (39 < n) := by
  unfold ab_inB
  rw [show (39 : Int32).toInt = 39 by decide]
  exact decide_eq_decide.mpr (by omega)
theorem cl_40 : (40 : Int32).toNatClampNeg = 40 := by decide
theorem ib_40 (n : Nat) : ab_inB 40 n = decide (40 < n) := by
  unfold ab_inB
  rw [show (40 : Int32).toInt = 40 by decide]
  exact decide_eq_decide.mpr (by omega)
theorem cl_72 : (72 : Int32).toNatClampNeg = 72 := by decide
theorem ib_72 (n : Nat) : ab_inB 72 n = decide (72 < n) := by
  unfold ab_inB
  rw [show (72 : Int32).toInt = 72 by decide]
  exact decide_eq_decide.mpr (by omega)
theorem cl_73 : (73 : Int32).toNatClampNeg = 73 := by decide
theorem ib_73 (n : Nat) : ab_inB 73 n = decide (73 < n) := by
  unfold ab_inB
  rw [show (73 : Int32).toInt = 73 by decide]
  exact decide_eq_decide.mpr (by omega)
theorem cl_74 : (74 : Int32).toNatClampNeg = 74 := by decide
theorem ib_74 (n : Nat) : ab_inB 74 n = decide (74 < n) := by
  unfold ab_inB
  rw [show (74 : Int32).toInt = 74 by decide]
  exact decide_eq_decide.mpr (by omega)
theorem cl_86 : (86 : Int32).toNatClampNeg = 86 := by decide
theorem ib_86 (n : Nat) : ab_inB 86 n = decide (86 < n) := by
  unfold ab_inB
  rw [show (86 : Int32).toInt = 86 by decide]
  exact decide_eq_decide.mpr (by omega)
theorem cl_100 : (100 : Int32).toNatClampNeg = 100 := by decide
theorem ib_100 (n : Nat) : ab_inB 100 n = decide (100 < n) := by
  unfold ab_inB
  rw [show (100 : Int32).toInt = 100 by decide]
  exact decide_eq_decide.mpr (by omega)
theorem cl_239 : (239 : Int32).toNatClampNeg = 239 := by decide
theorem ib_239 (n : Nat) : ab_inB 239 n = decide (239 < n) := by
  unfold ab_inB
  rw [show (239 : Int32).toInt = 239 by decide]
  exact decide_eq_decide.mpr (by omega)
theorem cl_240 : (240 : Int32).toNatClampNeg = 240 := by decide
theorem ib_240 (n : Nat) : ab_inB 240 n = decide (240 < n) := by
  unfold ab_inB
  rw [show (240 : Int32).toInt = 240 by decide]
  exact decide_eq_decide.mpr (by omega)
theorem cl_300 : (300 : Int32).toNatClampNeg = 300 := by decide
theorem ib_300 (n : Nat) : ab_inB 300 n = decide (300 < n) := by
  unfold ab_inB
  rw [show (300 : Int32).toInt = 300 by decide]
  exact decide_eq_decide.mpr (by omega)
theorem ib_m1 (n : Nat) : ab_inB (-1) n = false := by
  unfold ab_inB
  rw [show (-1 : Int32).toInt = -1 by decide]
  simp
theorem ib_nI {k n : Nat} (h : k < n) (hn : n < 2 ^ 31) : ab_inB (nI k) n = true := by
  unfold ab_inB
  rw [nI_toInt (by omega)]
  simp [h]
theorem ab_bs {α β : Type} (a : α) (f : α → Option β) : (some a).bind f = f a := rfl
theorem ab_bn {α β : Type} (f : α → Option β) : (none : Option α).bind f = none := rfl
theorem ab_pr0 (st : List Value) : ab_pr none st = st := rfl
theorem ab_pr1 (v : Value) (st : List Value) : ab_pr (some v) st = v :: st := rfl
theorem nl_n : ab_nl none = none := rfl
theorem nl_i (x : Int32) : ab_nl (some (.int x)) = some (.int x) := rfl
theorem nl_r (x : Nat) : ab_nl (some (.ref x)) = some (.ref x) := rfl
theorem nl_j (x : Int64) : ab_nl (some (.long x)) = none := rfl
theorem nl_nl (l : Option Value) : ab_nl (ab_nl l) = ab_nl l := by
  match l with
  | none => rfl
  | some (.long x) => rfl
  | some (.double x) => rfl
  | some (.int x) => rfl
  | some (.float x) => rfl
  | some (.ref x) => rfl
  | some .null => rfl
  | some (.retAddr x) => rfl
/-! what a method begins with -/
theorem ms1 {scr : Option (List Int32)} {M : ab_M} (v0 : Nat) : ab_ms scr 1 [.ref v0] M = ab_res scr 1 2 M 0 [some (.ref v0), none, none, none, none, none, none] [] := rfl
theorem ms3 {scr : Option (List Int32)} {M : ab_M} (v0 : Nat) (v1 : Int32) (v2 : Int32) : ab_ms scr 3 [.ref v0, .int v1, .int v2] M = ab_res scr 3 1 M 0 [some (.ref v0), some (.int v1), some (.int v2), none] [] := rfl
theorem ms4 {scr : Option (List Int32)} {M : ab_M} (v0 : Nat) : ab_ms scr 4 [.ref v0] M = ab_res scr 4 2 M 0 [some (.ref v0)] [] := rfl
theorem ms5 {scr : Option (List Int32)} {M : ab_M} (v0 : Nat) : ab_ms scr 5 [.ref v0] M = ab_res scr 5 2 M 0 [some (.ref v0), none] [] := rfl
theorem ms6 {scr : Option (List Int32)} {M : ab_M} (v0 : Nat) : ab_ms scr 6 [.ref v0] M = ab_res scr 6 6 M 0 [some (.ref v0), none, none, none, none, none] [] := rfl
theorem ms7 {scr : Option (List Int32)} {M : ab_M} (v0 : Nat) : ab_ms scr 7 [.ref v0] M = ab_res scr 7 2 M 0 [some (.ref v0), none] [] := rfl
theorem ms8 {scr : Option (List Int32)} {M : ab_M} (v0 : Nat) (v1 : Int32) : ab_ms scr 8 [.ref v0, .int v1] M = ab_res scr 8 3 M 0 [some (.ref v0), some (.int v1), none, none] [] := rfl
theorem ms9 {scr : Option (List Int32)} {M : ab_M} (v0 : Nat) (v1 : Int32) (v2 : Int32) : ab_ms scr 9 [.ref v0, .int v1, .int v2] M = ab_res scr 9 1 M 0 [some (.ref v0), some (.int v1), some (.int v2)] [] := rfl
theorem ms10 {scr : Option (List Int32)} {M : ab_M} (v0 : Nat) (v1 : Int32) : ab_ms scr 10 [.ref v0, .int v1] M = ab_res scr 10 2 M 0 [some (.ref v0), some (.int v1)] [] := rfl
theorem ms11 {scr : Option (List Int32)} {M : ab_M} (v0 : Nat) (v1 : Int32) : ab_ms scr 11 [.ref v0, .int v1] M = ab_res scr 11 3 M 0 [some (.ref v0), some (.int v1), none, none] [] := rfl
theorem ms12 {scr : Option (List Int32)} {M : ab_M} (v0 : Int32) (v1 : Int32) (v2 : Int32) : ab_ms scr 12 [.int v0, .int v1, .int v2] M = ab_res scr 12 1 M 0 [some (.int v0), some (.int v1), some (.int v2)] [] := rfl
theorem ms13 {scr : Option (List Int32)} {M : ab_M} (v0 : Nat) : ab_ms scr 13 [.ref v0] M = ab_res scr 13 2 M 0 [some (.ref v0)] [] := rfl
theorem ms14 {scr : Option (List Int32)} {M : ab_M} (v0 : Nat) (v1 : Int32) : ab_ms scr 14 [.ref v0, .int v1] M = ab_res scr 14 5 M 0 [some (.ref v0), some (.int v1), none, none, none] [] := rfl
theorem ms15 {scr : Option (List Int32)} {M : ab_M} (v0 : Nat) : ab_ms scr 15 [.ref v0] M = ab_res scr 15 2 M 0 [some (.ref v0), none, none] [] := rfl
theorem ms16 {scr : Option (List Int32)} {M : ab_M} (v0 : Nat) (v1 : Int32) : ab_ms scr 16 [.ref v0, .int v1] M = ab_res scr 16 2 M 0 [some (.ref v0), some (.int v1), none, none] [] := rfl
theorem ms17 {scr : Option (List Int32)} {M : ab_M} (v0 : Nat) (v1 : Int32) (v2 : Int32) (v3 : Int32) (v4 : Int32) : ab_ms scr 17 [.ref v0, .int v1, .int v2, .int v3, .int v4] M = ab_res scr 17 1 M 0 [some (.ref v0), some (.int v1), some (.int v2), some (.int v3), some (.int v4), none] [] := rfl
theorem ms18 {scr : Option (List Int32)} {M : ab_M} (v0 : Nat) (v1 : Int32) (v2 : Int32) : ab_ms scr 18 [.ref v0, .int v1, .int v2] M = ab_res scr 18 2 M 0 [some (.ref v0), some (.int v1), some (.int v2), none] [] := rfl
theorem ms19 {scr : Option (List Int32)} {M : ab_M} (v0 : Nat) (v1 : Int32) : ab_ms scr 19 [.ref v0, .int v1] M = ab_res scr 19 2 M 0 [some (.ref v0), some (.int v1), none] [] := rfl
theorem ms20 {scr : Option (List Int32)} {M : ab_M} (v0 : Nat) (v1 : Int32) (v2 : Int32) : ab_ms scr 20 [.ref v0, .int v1, .int v2] M = ab_res scr 20 1 M 0 [some (.ref v0), some (.int v1), some (.int v2)] [] := rfl
theorem ms21 {scr : Option (List Int32)} {M : ab_M} (v0 : Nat) : ab_ms scr 21 [.ref v0] M = ab_res scr 21 2 M 0 [some (.ref v0), none, none] [] := rfl
theorem ms22 {scr : Option (List Int32)} {M : ab_M} (v0 : Nat) (v1 : Int32) : ab_ms scr 22 [.ref v0, .int v1] M = ab_res scr 22 4 M 0 [some (.ref v0), some (.int v1), none] [] := rfl
theorem ms23 {scr : Option (List Int32)} {M : ab_M} (v0 : Nat) (v1 : Int32) : ab_ms scr 23 [.ref v0, .int v1] M = ab_res scr 23 2 M 0 [some (.ref v0), some (.int v1), none, none] [] := rfl
theorem ms24 {scr : Option (List Int32)} {M : ab_M} (v0 : Nat) (v1 : Int32) : ab_ms scr 24 [.ref v0, .int v1] M = ab_res scr 24 2 M 0 [some (.ref v0), some (.int v1), none, none] [] := rfl
theorem ms25 {scr : Option (List Int32)} {M : ab_M} (v0 : Nat) (v1 : Int32) : ab_ms scr 25 [.ref v0, .int v1] M = ab_res scr 25 2 M 0 [some (.ref v0), some (.int v1), none, none] [] := rfl
theorem ms26 {scr : Option (List Int32)} {M : ab_M} (v0 : Nat) (v1 : Int32) : ab_ms scr 26 [.ref v0, .int v1] M = ab_res scr 26 3 M 0 [some (.ref v0), some (.int v1), none, none] [] := rfl
theorem ms27 {scr : Option (List Int32)} {M : ab_M} (v0 : Nat) (v1 : Int32) : ab_ms scr 27 [.ref v0, .int v1] M = ab_res scr 27 3 M 0 [some (.ref v0), some (.int v1), none] [] := rfl
theorem ms28 {scr : Option (List Int32)} {M : ab_M} (v0 : Nat) (v1 : Int32) (v2 : Int32) : ab_ms scr 28 [.ref v0, .int v1, .int v2] M = ab_res scr 28 2 M 0 [some (.ref v0), some (.int v1), some (.int v2), none, none] [] := rfl
theorem ms29 {scr : Option (List Int32)} {M : ab_M} (v0 : Nat) (v1 : Int32) : ab_ms scr 29 [.ref v0, .int v1] M = ab_res scr 29 2 M 0 [some (.ref v0), some (.int v1), none, none] [] := rfl
theorem ms30 {scr : Option (List Int32)} {M : ab_M} (v0 : Nat) (v1 : Int32) : ab_ms scr 30 [.ref v0, .int v1] M = ab_res scr 30 3 M 0 [some (.ref v0), some (.int v1), none] [] := rfl
theorem ms31 {scr : Option (List Int32)} {M : ab_M} (v0 : Nat) (v1 : Int32) : ab_ms scr 31 [.ref v0, .int v1] M = ab_res scr 31 1 M 0 [some (.ref v0), some (.int v1)] [] := rfl
theorem ms32 {scr : Option (List Int32)} {M : ab_M} (v0 : Nat) : ab_ms scr 32 [.ref v0] M = ab_res scr 32 3 M 0 [some (.ref v0), none] [] := rfl
theorem ms33 {scr : Option (List Int32)} {M : ab_M} (v0 : Nat) : ab_ms scr 33 [.ref v0] M = ab_res scr 33 2 M 0 [some (.ref v0), none, none] [] := rfl
theorem ms35 {scr : Option (List Int32)} {M : ab_M} (v0 : Nat) (v1 : Int32) (v2 : Int32) (v3 : Int32) (v4 : Int32) (v5 : Int32) : ab_ms scr 35 [.ref v0, .int v1, .int v2, .int v3, .int v4, .int v5] M = ab_res scr 35 7 M 0 [some (.ref v0), some (.int v1), some (.int v2), some (.int v3), some (.int v4), some (.int v5), none, none, none, none] [] := rfl
theorem ms38 {scr : Option (List Int32)} {M : ab_M} (v0 : Nat) (v1 : Int32) : ab_ms scr 38 [.ref v0, .int v1] M = ab_res scr 38 1 M 0 [some (.ref v0), some (.int v1)] [] := rfl
theorem ms39 {scr : Option (List Int32)} {M : ab_M} (v0 : Nat) : ab_ms scr 39 [.ref v0] M = ab_res scr 39 1 M 0 [some (.ref v0)] [] := rfl
theorem ms40 {scr : Option (List Int32)} {M : ab_M} (v0 : Nat) : ab_ms scr 40 [.ref v0] M = ab_res scr 40 1 M 0 [some (.ref v0), none, none] [] := rfl
theorem ms41 {scr : Option (List Int32)} {M : ab_M} (v0 : Nat) (v1 : Nat) : ab_ms scr 41 [.ref v0, .ref v1] M = ab_res scr 41 1 M 0 [some (.ref v0), some (.ref v1), none] [] := rfl
theorem ms42 {scr : Option (List Int32)} {M : ab_M} (v0 : Nat) (v1 : Int32) (v2 : Int32) (v3 : Int32) : ab_ms scr 42 [.ref v0, .int v1, .int v2, .int v3] M = ab_res scr 42 1 M 0 [some (.ref v0), some (.int v1), some (.int v2), some (.int v3)] [] := rfl
theorem ms43 {scr : Option (List Int32)} {M : ab_M} (v0 : Nat) (v1 : Int32) : ab_ms scr 43 [.ref v0, .int v1] M = ab_res scr 43 1 M 0 [some (.ref v0), some (.int v1)] [] := rfl
theorem ms44 {scr : Option (List Int32)} {M : ab_M} (v0 : Nat) (v1 : Int32) : ab_ms scr 44 [.ref v0, .int v1] M = ab_res scr 44 1 M 0 [some (.ref v0), some (.int v1), none, none] [] := rfl
theorem ms45 {scr : Option (List Int32)} {M : ab_M} (v0 : Nat) (v1 : Int32) : ab_ms scr 45 [.ref v0, .int v1] M = ab_res scr 45 1 M 0 [some (.ref v0), some (.int v1), none, none] [] := rfl
theorem ms47 {scr : Option (List Int32)} {M : ab_M} (v0 : Nat) : ab_ms scr 47 [.ref v0] M = ab_res scr 47 11 M 0 [some (.ref v0), none] [] := rfl
theorem ms48 {scr : Option (List Int32)} {M : ab_M} (v0 : Nat) (v1 : Int32) (v2 : Int32) : ab_ms scr 48 [.ref v0, .int v1, .int v2] M = ab_res scr 48 (2 + (8 - v1.toNatClampNeg)) M 0 [some (.ref v0), some (.int v1), some (.int v2), none, none, none] [] := rfl
theorem ms49 {scr : Option (List Int32)} {M : ab_M} (v0 : Nat) (v1 : Int32) : ab_ms scr 49 [.ref v0, .int v1] M = ab_res scr 49 1 M 0 [some (.ref v0), some (.int v1), none] [] := rfl
theorem ms50 {scr : Option (List Int32)} {M : ab_M} (v0 : Nat) : ab_ms scr 50 [.ref v0] M = ab_res scr 50 1 M 0 [some (.ref v0), none] [] := rfl
theorem ms53 {scr : Option (List Int32)} {M : ab_M} (v0 : Nat) : ab_ms scr 53 [.ref v0] M = ab_res scr 53 1 M 0 [some (.ref v0)] [] := rfl
theorem ms54 {scr : Option (List Int32)} {M : ab_M} (v0 : Nat) : ab_ms scr 54 [.ref v0] M = ab_res scr 54 1 M 0 [some (.ref v0)] [] := rfl
theorem ms56 {scr : Option (List Int32)} {M : ab_M} (v0 : Nat) (v1 : Int32) (v2 : Int32) : ab_ms scr 56 [.ref v0, .int v1, .int v2] M = ab_res scr 56 2 M 0 [some (.ref v0), some (.int v1), some (.int v2)] [] := rfl
theorem ms57 {scr : Option (List Int32)} {M : ab_M} (v0 : Nat) (v1 : Int32) (v2 : Int32) : ab_ms scr 57 [.ref v0, .int v1, .int v2] M = ab_res scr 57 1 M 0 [some (.ref v0), some (.int v1), some (.int v2)] [] := rfl
theorem ms58 {scr : Option (List Int32)} {M : ab_M} (v0 : Nat) (v1 : Int32) (v2 : Int32) : ab_ms scr 58 [.ref v0, .int v1, .int v2] M = ab_res scr 58 1 M 0 [some (.ref v0), some (.int v1), some (.int v2)] [] := rfl
theorem ms60 {scr : Option (List Int32)} {M : ab_M} (v0 : Nat) : ab_ms scr 60 [.ref v0] M = ab_res scr 60 9 M 0 [some (.ref v0), none] [] := rfl
theorem ms61 {scr : Option (List Int32)} {M : ab_M} (v0 : Nat) : ab_ms scr 61 [.ref v0] M = ab_res scr 61 8 M 0 [some (.ref v0)] [] := rfl
theorem ms62 {scr : Option (List Int32)} {M : ab_M} (v0 : Nat) : ab_ms scr 62 [.ref v0] M = ab_res scr 62 5 M 0 [some (.ref v0), none, none, none] [] := rfl
theorem ms63 {scr : Option (List Int32)} {M : ab_M} (v0 : Nat) (v1 : Int32) : ab_ms scr 63 [.ref v0, .int v1] M = ab_res scr 63 7 M 0 [some (.ref v0), some (.int v1), none, none, none] [] := rfl
theorem ms64 {scr : Option (List Int32)} {M : ab_M} (v0 : Nat) : ab_ms scr 64 [.ref v0] M = ab_res scr 64 6 M 0 [some (.ref v0)] [] := rfl
theorem ms65 {scr : Option (List Int32)} {M : ab_M} (v0 : Nat) : ab_ms scr 65 [.ref v0] M = ab_res scr 65 5 M 0 [some (.ref v0)] [] := rfl
theorem ms66 {scr : Option (List Int32)} {M : ab_M} (v0 : Nat) (v1 : Int32) (v2 : Int32) : ab_ms scr 66 [.ref v0, .int v1, .int v2] M = ab_res scr 66 4 M 0 [some (.ref v0), some (.int v1), some (.int v2)] [] := rfl
theorem ms67 {scr : Option (List Int32)} {M : ab_M} (v0 : Nat) : ab_ms scr 67 [.ref v0] M = ab_res scr 67 2 M 0 [some (.ref v0)] [] := rfl
theorem ms68 {scr : Option (List Int32)} {M : ab_M} (v0 : Nat) (v1 : Int32) : ab_ms scr 68 [.ref v0, .int v1] M = ab_res scr 68 1 M 0 [some (.ref v0), some (.int v1)] [] := rfl
theorem ms70 {scr : Option (List Int32)} {M : ab_M} (v0 : Nat) (v1 : Int32) : ab_ms scr 70 [.ref v0, .int v1] M = ab_res scr 70 1 M 0 [some (.ref v0), some (.int v1)] [] := rfl
theorem ms71 {scr : Option (List Int32)} {M : ab_M} (v0 : Nat) (v1 : Int64) : ab_ms scr 71 [.ref v0, .long v1] M = ab_res scr 71 1 M 0 [some (.ref v0), some (.long v1), none, none] [] := rfl
theorem ms72 {scr : Option (List Int32)} {M : ab_M} (v0 : Nat) : ab_ms scr 72 [.ref v0] M = ab_res scr 72 3 M 0 [some (.ref v0)] [] := rfl
theorem ms73 {scr : Option (List Int32)} {M : ab_M} (v0 : Nat) : ab_ms scr 73 [.ref v0] M = ab_res scr 73 2 M 0 [some (.ref v0)] [] := rfl
theorem ms74 {scr : Option (List Int32)} {M : ab_M} (v0 : Nat) : ab_ms scr 74 [.ref v0] M = ab_res scr 74 2 M 0 [some (.ref v0)] [] := rfl
theorem ms75 {scr : Option (List Int32)} {M : ab_M} (v0 : Int32) : ab_ms scr 75 [.int v0] M = ab_res scr 75 1 M 0 [some (.int v0)] [] := rfl
theorem ms76 {scr : Option (List Int32)} {M : ab_M} (v0 : Int32) : ab_ms scr 76 [.int v0] M = ab_res scr 76 1 M 0 [some (.int v0)] [] := rfl
theorem ms77 {scr : Option (List Int32)} {M : ab_M} (v0 : Nat) (v1 : Nat) : ab_ms scr 77 [.ref v0, .ref v1] M = ab_res scr 77 5 M 0 [some (.ref v0), some (.ref v1), none] [] := rfl
theorem ms79 {scr : Option (List Int32)} {M : ab_M} (v0 : Nat) (v1 : Int64) : ab_ms scr 79 [.ref v0, .long v1] M = ab_res scr 79 2 M 0 [some (.ref v0), some (.long v1), none] [] := rfl
theorem ms80 {scr : Option (List Int32)} {M : ab_M} (v0 : Nat) (v1 : Int32) : ab_ms scr 80 [.ref v0, .int v1] M = ab_res scr 80 2 M 0 [some (.ref v0), some (.int v1), none] [] := rfl
theorem ms81 {scr : Option (List Int32)} {M : ab_M} (v0 : Nat) : ab_ms scr 81 [.ref v0] M = ab_res scr 81 10 M 0 [some (.ref v0), none] [] := rfl
theorem ms82 {scr : Option (List Int32)} {M : ab_M} (v0 : Nat) : ab_ms scr 82 [.ref v0] M = ab_res scr 82 1 M 0 [some (.ref v0)] [] := rfl
theorem ms83 {scr : Option (List Int32)} {M : ab_M} (v0 : Nat) (v1 : Int32) (v2 : Int32) : ab_ms scr 83 [.ref v0, .int v1, .int v2] M = ab_res scr 83 2 M 0 [some (.ref v0), some (.int v1), some (.int v2)] [] := rfl
theorem ms84 {scr : Option (List Int32)} {M : ab_M} (v0 : Nat) (v1 : Int32) (v2 : Int32) (v3 : Int32) : ab_ms scr 84 [.ref v0, .int v1, .int v2, .int v3] M = ab_res scr 84 2 M 0 [some (.ref v0), some (.int v1), some (.int v2), some (.int v3), none] [] := rfl
theorem ms85 {scr : Option (List Int32)} {M : ab_M} (v0 : Nat) (v1 : Int32) (v2 : Int32) (v3 : Int32) : ab_ms scr 85 [.ref v0, .int v1, .int v2, .int v3] M = ab_res scr 85 8 M 0 [some (.ref v0), some (.int v1), some (.int v2), some (.int v3)] [] := rfl
theorem ms86 {scr : Option (List Int32)} {M : ab_M} (v0 : Nat) (v1 : Int32) (v2 : Int32) (v3 : Int32) (v4 : Int32) : ab_ms scr 86 [.ref v0, .int v1, .int v2, .int v3, .int v4] M = ab_res scr 86 8 M 0 [some (.ref v0), some (.int v1), some (.int v2), some (.int v3), some (.int v4), none] [] := rfl
theorem ms87 {scr : Option (List Int32)} {M : ab_M} (v0 : Nat) (v1 : Int32) (v2 : Int32) (v3 : Int32) (v4 : Int32) : ab_ms scr 87 [.ref v0, .int v1, .int v2, .int v3, .int v4] M = ab_res scr 87 8 M 0 [some (.ref v0), some (.int v1), some (.int v2), some (.int v3), some (.int v4), none] [] := rfl
theorem ms88 {scr : Option (List Int32)} {M : ab_M} (v0 : Nat) (v1 : Int32) (v2 : Int32) : ab_ms scr 88 [.ref v0, .int v1, .int v2] M = ab_res scr 88 8 M 0 [some (.ref v0), some (.int v1), some (.int v2), none, none, none, none, none] [] := rfl
theorem ms89 {scr : Option (List Int32)} {M : ab_M} (v0 : Nat) (v1 : Int32) : ab_ms scr 89 [.ref v0, .int v1] M = ab_res scr 89 12 M 0 [some (.ref v0), some (.int v1), none, none] [] := rfl
theorem ms90 {scr : Option (List Int32)} {M : ab_M} (v0 : Nat) (v1 : Int32) : ab_ms scr 90 [.ref v0, .int v1] M = ab_res scr 90 2 M 0 [some (.ref v0), some (.int v1)] [] := rfl
theorem ms91 {scr : Option (List Int32)} {M : ab_M} (v0 : Nat) : ab_ms scr 91 [.ref v0] M = ab_res scr 91 1 M 0 [some (.ref v0), none] [] := rfl
theorem ms92 {scr : Option (List Int32)} {M : ab_M} (v0 : Nat) (v1 : Int32) (v2 : Int32) (v3 : Int32) : ab_ms scr 92 [.ref v0, .int v1, .int v2, .int v3] M = ab_res scr 92 8 M 0 [some (.ref v0), some (.int v1), some (.int v2), some (.int v3), none, none, none] [] := rfl
theorem ms93 {scr : Option (List Int32)} {M : ab_M} (v0 : Nat) : ab_ms scr 93 [.ref v0] M = ab_res scr 93 12 M 0 [some (.ref v0), none, none] [] := rfl
theorem ms94 {scr : Option (List Int32)} {M : ab_M} (v0 : Nat) (v1 : Int32) (v2 : Int32) (v3 : Int32) (v4 : Int32) : ab_ms scr 94 [.ref v0, .int v1, .int v2, .int v3, .int v4] M = ab_res scr 94 8 M 0 [some (.ref v0), some (.int v1), some (.int v2), some (.int v3), some (.int v4)] [] := rfl
theorem ms95 {scr : Option (List Int32)} {M : ab_M} (v0 : Nat) (v1 : Int32) (v2 : Int32) (v3 : Int32) (v4 : Int32) : ab_ms scr 95 [.ref v0, .int v1, .int v2, .int v3, .int v4] M = ab_res scr 95 8 M 0 [some (.ref v0), some (.int v1), some (.int v2), some (.int v3), some (.int v4)] [] := rfl
theorem ms96 {scr : Option (List Int32)} {M : ab_M} (v0 : Nat) (v1 : Int32) (v2 : Int32) : ab_ms scr 96 [.ref v0, .int v1, .int v2] M = ab_res scr 96 8 M 0 [some (.ref v0), some (.int v1), some (.int v2), none, none, none, none, none] [] := rfl
theorem ms97 {scr : Option (List Int32)} {M : ab_M} (v0 : Nat) (v1 : Int32) (v2 : Int32) (v3 : Int32) (v4 : Int32) : ab_ms scr 97 [.ref v0, .int v1, .int v2, .int v3, .int v4] M = ab_res scr 97 8 M 0 [some (.ref v0), some (.int v1), some (.int v2), some (.int v3), some (.int v4), none] [] := rfl
theorem ms98 {scr : Option (List Int32)} {M : ab_M} (v0 : Nat) (v1 : Int32) (v2 : Int32) : ab_ms scr 98 [.ref v0, .int v1, .int v2] M = ab_res scr 98 7 M 0 [some (.ref v0), some (.int v1), some (.int v2), none] [] := rfl
theorem ms99 {scr : Option (List Int32)} {M : ab_M} (v0 : Nat) (v1 : Int32) (v2 : Int32) (v3 : Int32) (v4 : Int32) : ab_ms scr 99 [.ref v0, .int v1, .int v2, .int v3, .int v4] M = ab_res scr 99 7 M 0 [some (.ref v0), some (.int v1), some (.int v2), some (.int v3), some (.int v4), none, none, none, none, none] [] := rfl
theorem ms100 {scr : Option (List Int32)} {M : ab_M} (v0 : Nat) (v1 : Int32) (v2 : Int32) : ab_ms scr 100 [.ref v0, .int v1, .int v2] M = ab_res scr 100 8 M 0 [some (.ref v0), some (.int v1), some (.int v2), none] [] := rfl
theorem ms101 {scr : Option (List Int32)} {M : ab_M} (v0 : Nat) (v1 : Int32) : ab_ms scr 101 [.ref v0, .int v1] M = ab_res scr 101 3 M 0 [some (.ref v0), some (.int v1), none] [] := rfl
theorem ms102 {scr : Option (List Int32)} {M : ab_M} (v0 : Nat) (v1 : Int32) (v2 : Int32) : ab_ms scr 102 [.ref v0, .int v1, .int v2] M = ab_res scr 102 2 M 0 [some (.ref v0), some (.int v1), some (.int v2), none] [] := rfl
theorem ms103 {scr : Option (List Int32)} {M : ab_M} (v0 : Nat) (v1 : Int32) (v2 : Int32) (v3 : Int32) : ab_ms scr 103 [.ref v0, .int v1, .int v2, .int v3] M = ab_res scr 103 8 M 0 [some (.ref v0), some (.int v1), some (.int v2), some (.int v3), none, none, none, none, none, none] [] := rfl
theorem ms104 {scr : Option (List Int32)} {M : ab_M} (v0 : Nat) (v1 : Int32) : ab_ms scr 104 [.ref v0, .int v1] M = ab_res scr 104 2 M 0 [some (.ref v0), some (.int v1), none] [] := rfl
theorem ms105 {scr : Option (List Int32)} {M : ab_M} (v0 : Nat) (v1 : Int32) : ab_ms scr 105 [.ref v0, .int v1] M = ab_res scr 105 2 M 0 [some (.ref v0), some (.int v1)] [] := rfl
theorem ms106 {scr : Option (List Int32)} {M : ab_M} (v0 : Nat) (v1 : Int32) (v2 : Int32) (v3 : Int32) : ab_ms scr 106 [.ref v0, .int v1, .int v2, .int v3] M = ab_res scr 106 3 M 0 [some (.ref v0), some (.int v1), some (.int v2), some (.int v3)] [] := rfl
theorem ms107 {scr : Option (List Int32)} {M : ab_M} (v0 : Nat) (v1 : Int32) (v2 : Int32) (v3 : Int32) : ab_ms scr 107 [.ref v0, .int v1, .int v2, .int v3] M = ab_res scr 107 2 M 0 [some (.ref v0), some (.int v1), some (.int v2), some (.int v3), none] [] := rfl
theorem ms108 {scr : Option (List Int32)} {M : ab_M} (v0 : Nat) (v1 : Int32) (v2 : Int32) (v3 : Int32) (v4 : Int32) : ab_ms scr 108 [.ref v0, .int v1, .int v2, .int v3, .int v4] M = ab_res scr 108 2 M 0 [some (.ref v0), some (.int v1), some (.int v2), some (.int v3), some (.int v4), none, none, none, none] [] := rfl
theorem ms109 {scr : Option (List Int32)} {M : ab_M} (v0 : Nat) : ab_ms scr 109 [.ref v0] M = ab_res scr 109 1 M 0 [some (.ref v0)] [] := rfl
theorem ms110 {scr : Option (List Int32)} {M : ab_M} (v0 : Nat) (v1 : Int32) : ab_ms scr 110 [.ref v0, .int v1] M = ab_res scr 110 2 M 0 [some (.ref v0), some (.int v1)] [] := rfl
theorem ms111 {scr : Option (List Int32)} {M : ab_M} (v0 : Int32) (v1 : Int32) : ab_ms scr 111 [.int v0, .int v1] M = ab_res scr 111 1 M 0 [some (.int v0), some (.int v1)] [] := rfl
theorem ms112 {scr : Option (List Int32)} {M : ab_M} (v0 : Int32) (v1 : Int32) : ab_ms scr 112 [.int v0, .int v1] M = ab_res scr 112 1 M 0 [some (.int v0), some (.int v1)] [] := rfl
theorem ms113 {scr : Option (List Int32)} {M : ab_M} (v0 : Nat) (v1 : Int32) (v2 : Int32) : ab_ms scr 113 [.ref v0, .int v1, .int v2] M = ab_res scr 113 7 M 0 [some (.ref v0), some (.int v1), some (.int v2)] [] := rfl
theorem ms114 {scr : Option (List Int32)} {M : ab_M} (v0 : Nat) (v1 : Int32) : ab_ms scr 114 [.ref v0, .int v1] M = ab_res scr 114 3 M 0 [some (.ref v0), some (.int v1), none, none, none] [] := rfl
theorem ms115 {scr : Option (List Int32)} {M : ab_M} (v0 : Nat) (v1 : Int32) : ab_ms scr 115 [.ref v0, .int v1] M = ab_res scr 115 3 M 0 [some (.ref v0), some (.int v1), none, none, none, none, none] [] := rfl
theorem ms116 {scr : Option (List Int32)} {M : ab_M} (v0 : Nat) (v1 : Nat) (v2 : Int32) : ab_ms scr 116 [.ref v0, .ref v1, .int v2] M = ab_res scr 116 2 M 0 [some (.ref v0), some (.ref v1), some (.int v2), none, none] [] := rfl
theorem ms117 {scr : Option (List Int32)} {M : ab_M} (v0 : Int64) (v1 : Int64) (v2 : Int32) : ab_ms scr 117 [.long v0, .long v1, .int v2] M = ab_res scr 117 2 M 0 [some (.long v0), none, some (.long v1), none, some (.int v2), none, none] [] := rfl
theorem ms118 {scr : Option (List Int32)} {M : ab_M} (v0 : Int64) (v1 : Int64) : ab_ms scr 118 [.long v0, .long v1] M = ab_res scr 118 1 M 0 [some (.long v0), none, some (.long v1), none, none, none, none] [] := rfl
theorem ms120 {scr : Option (List Int32)} {M : ab_M} (v0 : Int64) (v1 : Int64) (v2 : Int64) : ab_ms scr 120 [.long v0, .long v1, .long v2] M = ab_res scr 120 1 M 0 [some (.long v0), none, some (.long v1), none, some (.long v2), none] [] := rfl
theorem ms121 {scr : Option (List Int32)} {M : ab_M} (v0 : Nat) : ab_ms scr 121 [.ref v0] M = ab_res scr 121 1 M 0 [some (.ref v0)] [] := rfl
theorem ms122 {scr : Option (List Int32)} {M : ab_M} (v0 : Nat) (v1 : Int64) : ab_ms scr 122 [.ref v0, .long v1] M = ab_res scr 122 1 M 0 [some (.ref v0), some (.long v1), none, none] [] := rfl
theorem ms123 {scr : Option (List Int32)} {M : ab_M} (v0 : Nat) (v1 : Int32) : ab_ms scr 123 [.ref v0, .int v1] M = ab_res scr 123 2 M 0 [some (.ref v0), some (.int v1), none] [] := rfl
theorem ms124 {scr : Option (List Int32)} {M : ab_M} (v0 : Nat) (v1 : Int32) : ab_ms scr 124 [.ref v0, .int v1] M = ab_res scr 124 1 M 0 [some (.ref v0), some (.int v1)] [] := rfl
theorem ms125 {scr : Option (List Int32)} {M : ab_M} (v0 : Nat) (v1 : Int32) : ab_ms scr 125 [.ref v0, .int v1] M = ab_res scr 125 1 M 0 [some (.ref v0), some (.int v1)] [] := rfl
theorem ms126 {scr : Option (List Int32)} {M : ab_M} (v0 : Nat) : ab_ms scr 126 [.ref v0] M = ab_res scr 126 2 M 0 [some (.ref v0), none, none, none] [] := rfl
theorem ms127 {scr : Option (List Int32)} {M : ab_M} (v0 : Nat) : ab_ms scr 127 [.ref v0] M = ab_res scr 127 2 M 0 [some (.ref v0), none] [] := rfl
theorem ms128 {scr : Option (List Int32)} {M : ab_M} (v0 : Nat) (v1 : Int32) (v2 : Int32) : ab_ms scr 128 [.ref v0, .int v1, .int v2] M = ab_res scr 128 3 M 0 [some (.ref v0), some (.int v1), some (.int v2), none] [] := rfl
theorem ms129 {scr : Option (List Int32)} {M : ab_M} (v0 : Nat) (v1 : Int32) (v2 : Int32) : ab_ms scr 129 [.ref v0, .int v1, .int v2] M = ab_res scr 129 4 M 0 [some (.ref v0), some (.int v1), some (.int v2)] [] := rfl
theorem ms130 {scr : Option (List Int32)} {M : ab_M} (v0 : Nat) : ab_ms scr 130 [.ref v0] M = ab_res scr 130 5 M 0 [some (.ref v0), none, none, none] [] := rfl
theorem ms131 {scr : Option (List Int32)} {M : ab_M} (v0 : Nat) : ab_ms scr 131 [.ref v0] M = ab_res scr 131 6 M 0 [some (.ref v0), none] [] := rfl
theorem ms132 {scr : Option (List Int32)} {M : ab_M} (v0 : Nat) : ab_ms scr 132 [.ref v0] M = ab_res scr 132 7 M 0 [some (.ref v0), none, none] [] := rfl
theorem ms133 {scr : Option (List Int32)} {M : ab_M} (v0 : Nat) : ab_ms scr 133 [.ref v0] M = ab_res scr 133 1 M 0 [some (.ref v0)] [] := rfl
theorem ms134 {scr : Option (List Int32)} {M : ab_M} (v0 : Nat) (v1 : Int32) : ab_ms scr 134 [.ref v0, .int v1] M = ab_res scr 134 2 M 0 [some (.ref v0), some (.int v1)] [] := rfl
theorem ms135 {scr : Option (List Int32)} {M : ab_M} (v0 : Nat) (v1 : Int32) (v2 : Int32) : ab_ms scr 135 [.ref v0, .int v1, .int v2] M = ab_res scr 135 1 M 0 [some (.ref v0), some (.int v1), some (.int v2)] [] := rfl
theorem ms136 {scr : Option (List Int32)} {M : ab_M} (v0 : Nat) (v1 : Int32) (v2 : Int32) : ab_ms scr 136 [.ref v0, .int v1, .int v2] M = ab_res scr 136 3 M 0 [some (.ref v0), some (.int v1), some (.int v2)] [] := rfl
theorem ms137 {scr : Option (List Int32)} {M : ab_M} (v0 : Nat) (v1 : Int32) (v2 : Int32) (v3 : Int32) : ab_ms scr 137 [.ref v0, .int v1, .int v2, .int v3] M = ab_res scr 137 2 M 0 [some (.ref v0), some (.int v1), some (.int v2), some (.int v3)] [] := rfl
theorem ms138 {scr : Option (List Int32)} {M : ab_M} (v0 : Nat) (v1 : Int32) (v2 : Int32) (v3 : Int32) : ab_ms scr 138 [.ref v0, .int v1, .int v2, .int v3] M = ab_res scr 138 3 M 0 [some (.ref v0), some (.int v1), some (.int v2), some (.int v3), none] [] := rfl
theorem ms139 {scr : Option (List Int32)} {M : ab_M} (v0 : Nat) (v1 : Int32) : ab_ms scr 139 [.ref v0, .int v1] M = ab_res scr 139 2 M 0 [some (.ref v0), some (.int v1), none] [] := rfl
theorem ms140 {scr : Option (List Int32)} {M : ab_M} (v0 : Int32) : ab_ms scr 140 [.int v0] M = ab_res scr 140 1 M 0 [some (.int v0)] [] := rfl
theorem ms141 {scr : Option (List Int32)} {M : ab_M} (v0 : Nat) (v1 : Int32) : ab_ms scr 141 [.ref v0, .int v1] M = ab_res scr 141 1 M 0 [some (.ref v0), some (.int v1)] [] := rfl
theorem ms142 {scr : Option (List Int32)} {M : ab_M} (v0 : Nat) : ab_ms scr 142 [.ref v0] M = ab_res scr 142 2 M 0 [some (.ref v0), none] [] := rfl
theorem ms143 {scr : Option (List Int32)} {M : ab_M} (v0 : Nat) (v1 : Int32) : ab_ms scr 143 [.ref v0, .int v1] M = ab_res scr 143 2 M 0 [some (.ref v0), some (.int v1), none] [] := rfl
theorem ms144 {scr : Option (List Int32)} {M : ab_M} (v0 : Nat) (v1 : Int32) : ab_ms scr 144 [.ref v0, .int v1] M = ab_res scr 144 1 M 0 [some (.ref v0), some (.int v1)] [] := rfl
theorem ms145 {scr : Option (List Int32)} {M : ab_M} (v0 : Nat) : ab_ms scr 145 [.ref v0] M = ab_res scr 145 2 M 0 [some (.ref v0), none, none] [] := rfl
theorem ms146 {scr : Option (List Int32)} {M : ab_M} (v0 : Nat) : ab_ms scr 146 [.ref v0] M = ab_res scr 146 1 M 0 [some (.ref v0), none, none] [] := rfl
theorem ms147 {scr : Option (List Int32)} {M : ab_M} (v0 : Int32) : ab_ms scr 147 [.int v0] M = ab_res scr 147 1 M 0 [some (.int v0), none, none] [] := rfl
theorem ms148 {scr : Option (List Int32)} {M : ab_M} (v0 : Nat) (v1 : Int32) : ab_ms scr 148 [.ref v0, .int v1] M = ab_res scr 148 2 M 0 [some (.ref v0), some (.int v1), none, none] [] := rfl
theorem ms149 {scr : Option (List Int32)} {M : ab_M} (v0 : Nat) (v1 : Int32) : ab_ms scr 149 [.ref v0, .int v1] M = ab_res scr 149 2 M 0 [some (.ref v0), some (.int v1), none, none] [] := rfl
theorem ms150 {scr : Option (List Int32)} {M : ab_M} (v0 : Nat) (v1 : Int32) : ab_ms scr 150 [.ref v0, .int v1] M = ab_res scr 150 1 M 0 [some (.ref v0), some (.int v1), none] [] := rfl
theorem ms151 {scr : Option (List Int32)} {M : ab_M} (v0 : Nat) (v1 : Int32) : ab_ms scr 151 [.ref v0, .int v1] M = ab_res scr 151 2 M 0 [some (.ref v0), some (.int v1), none, none] [] := rfl
theorem ms152 {scr : Option (List Int32)} {M : ab_M} (v0 : Nat) (v1 : Int32) (v2 : Int32) : ab_ms scr 152 [.ref v0, .int v1, .int v2] M = ab_res scr 152 2 M 0 [some (.ref v0), some (.int v1), some (.int v2)] [] := rfl
theorem ms153 {scr : Option (List Int32)} {M : ab_M} (v0 : Nat) (v1 : Int32) (v2 : Int32) : ab_ms scr 153 [.ref v0, .int v1, .int v2] M = ab_res scr 153 3 M 0 [some (.ref v0), some (.int v1), some (.int v2), none, none, none] [] := rfl
theorem ms154 {scr : Option (List Int32)} {M : ab_M} (v0 : Nat) (v1 : Int32) (v2 : Int32) (v3 : Int32) (v4 : Int32) : ab_ms scr 154 [.ref v0, .int v1, .int v2, .int v3, .int v4] M = ab_res scr 154 2 M 0 [some (.ref v0), some (.int v1), some (.int v2), some (.int v3), some (.int v4), none, none] [] := rfl
theorem ms155 {scr : Option (List Int32)} {M : ab_M} (v0 : Nat) : ab_ms scr 155 [.ref v0] M = ab_res scr 155 2 M 0 [some (.ref v0), none] [] := rfl
theorem ms156 {scr : Option (List Int32)} {M : ab_M} (v0 : Nat) (v1 : Int32) (v2 : Int32) : ab_ms scr 156 [.ref v0, .int v1, .int v2] M = ab_res scr 156 3 M 0 [some (.ref v0), some (.int v1), some (.int v2), none, none] [] := rfl
theorem ms157 {scr : Option (List Int32)} {M : ab_M} (v0 : Nat) (v1 : Int32) (v2 : Int32) : ab_ms scr 157 [.ref v0, .int v1, .int v2] M = ab_res scr 157 4 M 0 [some (.ref v0), some (.int v1), some (.int v2), none, none, none, none, none, none] [] := rfl
theorem ms158 {scr : Option (List Int32)} {M : ab_M} (v0 : Nat) (v1 : Int32) : ab_ms scr 158 [.ref v0, .int v1] M = ab_res scr 158 5 M 0 [some (.ref v0), some (.int v1), none] [] := rfl
theorem ms159 {scr : Option (List Int32)} {M : ab_M} (v0 : Nat) (v1 : Int32) (v2 : Int32) : ab_ms scr 159 [.ref v0, .int v1, .int v2] M = ab_res scr 159 6 M 0 [some (.ref v0), some (.int v1), some (.int v2)] [] := rfl
theorem ms160 {scr : Option (List Int32)} {M : ab_M} (v0 : Int32) : ab_ms scr 160 [.int v0] M = ab_res scr 160 2 M 0 [some (.int v0)] [] := rfl
theorem ms161 {scr : Option (List Int32)} {M : ab_M} (v0 : Nat) : ab_ms scr 161 [.ref v0] M = ab_res scr 161 1 M 0 [some (.ref v0), none, none] [] := rfl
theorem ms162 {scr : Option (List Int32)} {M : ab_M} (v0 : Nat) : ab_ms scr 162 [.ref v0] M = ab_res scr 162 2 M 0 [some (.ref v0), none] [] := rfl
theorem ms163 {scr : Option (List Int32)} {M : ab_M} (v0 : Nat) (v1 : Int32) (v2 : Int32) (v3 : Int32) : ab_ms scr 163 [.ref v0, .int v1, .int v2, .int v3] M = ab_res scr 163 7 M 0 [some (.ref v0), some (.int v1), some (.int v2), some (.int v3)] [] := rfl
theorem ms164 {scr : Option (List Int32)} {M : ab_M} (v0 : Nat) (v1 : Int32) (v2 : Int32) (v3 : Int32) (v4 : Int32) : ab_ms scr 164 [.ref v0, .int v1, .int v2, .int v3, .int v4] M = ab_res scr 164 7 M 0 [some (.ref v0), some (.int v1), some (.int v2), some (.int v3), some (.int v4)] [] := rfl
theorem ms165 {scr : Option (List Int32)} {M : ab_M} (v0 : Nat) (v1 : Int32) (v2 : Int32) (v3 : Int32) (v4 : Int32) : ab_ms scr 165 [.ref v0, .int v1, .int v2, .int v3, .int v4] M = ab_res scr 165 7 M 0 [some (.ref v0), some (.int v1), some (.int v2), some (.int v3), some (.int v4)] [] := rfl
theorem ms166 {scr : Option (List Int32)} {M : ab_M} (v0 : Nat) (v1 : Int32) (v2 : Int32) : ab_ms scr 166 [.ref v0, .int v1, .int v2] M = ab_res scr 166 7 M 0 [some (.ref v0), some (.int v1), some (.int v2), none, none, none, none, none] [] := rfl
theorem ms167 {scr : Option (List Int32)} {M : ab_M} (v0 : Nat) : ab_ms scr 167 [.ref v0] M = ab_res scr 167 6 M 0 [some (.ref v0), none, none, none] [] := rfl
theorem ms168 {scr : Option (List Int32)} {M : ab_M} (v0 : Nat) : ab_ms scr 168 [.ref v0] M = ab_res scr 168 2 M 0 [some (.ref v0), none, none, none, none] [] := rfl
theorem ms169 {scr : Option (List Int32)} {M : ab_M} (v0 : Nat) : ab_ms scr 169 [.ref v0] M = ab_res scr 169 1 M 0 [some (.ref v0), none, none] [] := rfl
theorem ms170 {scr : Option (List Int32)} {M : ab_M} (v0 : Nat) : ab_ms scr 170 [.ref v0] M = ab_res scr 170 7 M 0 [some (.ref v0), none, none, none] [] := rfl
theorem ms171 {scr : Option (List Int32)} {M : ab_M} (v0 : Nat) (v1 : Int32) : ab_ms scr 171 [.ref v0, .int v1] M = ab_res scr 171 8 M 0 [some (.ref v0), some (.int v1), none] [] := rfl
theorem ms172 {scr : Option (List Int32)} {M : ab_M} (v0 : Nat) (v1 : Int32) : ab_ms scr 172 [.ref v0, .int v1] M = ab_res scr 172 3 M 0 [some (.ref v0), some (.int v1)] [] := rfl
theorem ms173 {scr : Option (List Int32)} {M : ab_M} (v0 : Nat) : ab_ms scr 173 [.ref v0] M = ab_res scr 173 1 M 0 [some (.ref v0), none] [] := rfl
theorem ms174 {scr : Option (List Int32)} {M : ab_M} (v0 : Nat) (v1 : Int32) (v2 : Int32) (v3 : Int32) : ab_ms scr 174 [.ref v0, .int v1, .int v2, .int v3] M = ab_res scr 174 7 M 0 [some (.ref v0), some (.int v1), some (.int v2), some (.int v3), none] [] := rfl
theorem ms175 {scr : Option (List Int32)} {M : ab_M} (v0 : Nat) : ab_ms scr 175 [.ref v0] M = ab_res scr 175 8 M 0 [some (.ref v0), none, none] [] := rfl
theorem ms176 {scr : Option (List Int32)} {M : ab_M} (v0 : Nat) (v1 : Int32) (v2 : Int32) (v3 : Int32) (v4 : Int32) (v5 : Int32) (v6 : Int32) : ab_ms scr 176 [.ref v0, .int v1, .int v2, .int v3, .int v4, .int v5, .int v6] M = ab_res scr 176 7 M 0 [some (.ref v0), some (.int v1), some (.int v2), some (.int v3), some (.int v4), some (.int v5), some (.int v6), none, none, none] [] := rfl
theorem ms177 {scr : Option (List Int32)} {M : ab_M} (v0 : Nat) (v1 : Int32) (v2 : Int32) (v3 : Int32) (v4 : Int32) : ab_ms scr 177 [.ref v0, .int v1, .int v2, .int v3, .int v4] M = ab_res scr 177 8 M 0 [some (.ref v0), some (.int v1), some (.int v2), some (.int v3), some (.int v4)] [] := rfl
theorem ms178 {scr : Option (List Int32)} {M : ab_M} (v0 : Nat) (v1 : Int32) (v2 : Int32) (v3 : Int32) (v4 : Int32) : ab_ms scr 178 [.ref v0, .int v1, .int v2, .int v3, .int v4] M = ab_res scr 178 8 M 0 [some (.ref v0), some (.int v1), some (.int v2), some (.int v3), some (.int v4)] [] := rfl
theorem ms179 {scr : Option (List Int32)} {M : ab_M} (v0 : Nat) (v1 : Int32) (v2 : Int32) : ab_ms scr 179 [.ref v0, .int v1, .int v2] M = ab_res scr 179 8 M 0 [some (.ref v0), some (.int v1), some (.int v2), none, none, none, none, none] [] := rfl
theorem ms180 {scr : Option (List Int32)} {M : ab_M} (v0 : Int64) (v1 : Int64) (v2 : Int32) : ab_ms scr 180 [.long v0, .long v1, .int v2] M = ab_res scr 180 1 M 0 [some (.long v0), none, some (.long v1), none, some (.int v2), none, none, none, none, none, none] [] := rfl
theorem ms181 {scr : Option (List Int32)} {M : ab_M} (v0 : Nat) (v1 : Int32) (v2 : Int32) (v3 : Int32) (v4 : Int32) : ab_ms scr 181 [.ref v0, .int v1, .int v2, .int v3, .int v4] M = ab_res scr 181 7 M 0 [some (.ref v0), some (.int v1), some (.int v2), some (.int v3), some (.int v4), none, none] [] := rfl
theorem ms182 {scr : Option (List Int32)} {M : ab_M} (v0 : Nat) (v1 : Int32) (v2 : Int32) : ab_ms scr 182 [.ref v0, .int v1, .int v2] M = ab_res scr 182 7 M 0 [some (.ref v0), some (.int v1), some (.int v2), none, none, none, none, none, none, none, none] [] := rfl
theorem ms183 {scr : Option (List Int32)} {M : ab_M} (v0 : Nat) (v1 : Int32) (v2 : Int32) (v3 : Int32) (v4 : Int32) : ab_ms scr 183 [.ref v0, .int v1, .int v2, .int v3, .int v4] M = ab_res scr 183 6 M 0 [some (.ref v0), some (.int v1), some (.int v2), some (.int v3), some (.int v4), none, none, none, none, none] [] := rfl
theorem ms184 {scr : Option (List Int32)} {M : ab_M} (v0 : Nat) (v1 : Int32) (v2 : Int32) : ab_ms scr 184 [.ref v0, .int v1, .int v2] M = ab_res scr 184 7 M 0 [some (.ref v0), some (.int v1), some (.int v2), none] [] := rfl
theorem ms185 {scr : Option (List Int32)} {M : ab_M} (v0 : Nat) (v1 : Int32) : ab_ms scr 185 [.ref v0, .int v1] M = ab_res scr 185 2 M 0 [some (.ref v0), some (.int v1), none, none, none] [] := rfl
theorem ms186 {scr : Option (List Int32)} {M : ab_M} (v0 : Nat) (v1 : Int32) : ab_ms scr 186 [.ref v0, .int v1] M = ab_res scr 186 3 M 0 [some (.ref v0), some (.int v1), none, none, none, none, none] [] := rfl
theorem ms187 {scr : Option (List Int32)} {M : ab_M} (v0 : Nat) (v1 : Int32) (v2 : Int32) : ab_ms scr 187 [.ref v0, .int v1, .int v2] M = ab_res scr 187 3 M 0 [some (.ref v0), some (.int v1), some (.int v2), none] [] := rfl
theorem ms188 {scr : Option (List Int32)} {M : ab_M} (v0 : Nat) (v1 : Int32) (v2 : Int32) (v3 : Int32) : ab_ms scr 188 [.ref v0, .int v1, .int v2, .int v3] M = ab_res scr 188 7 M 0 [some (.ref v0), some (.int v1), some (.int v2), some (.int v3), none, none, none, none, none, none] [] := rfl
theorem ms189 {scr : Option (List Int32)} {M : ab_M} (v0 : Nat) (v1 : Int32) : ab_ms scr 189 [.ref v0, .int v1] M = ab_res scr 189 2 M 0 [some (.ref v0), some (.int v1), none] [] := rfl
theorem ms190 {scr : Option (List Int32)} {M : ab_M} (v0 : Nat) (v1 : Int32) : ab_ms scr 190 [.ref v0, .int v1] M = ab_res scr 190 2 M 0 [some (.ref v0), some (.int v1), none] [] := rfl
theorem ms191 {scr : Option (List Int32)} {M : ab_M} (v0 : Nat) (v1 : Int32) (v2 : Int32) (v3 : Int32) : ab_ms scr 191 [.ref v0, .int v1, .int v2, .int v3] M = ab_res scr 191 2 M 0 [some (.ref v0), some (.int v1), some (.int v2), some (.int v3), none] [] := rfl
theorem ms192 {scr : Option (List Int32)} {M : ab_M} (v0 : Nat) (v1 : Int32) (v2 : Int32) (v3 : Int32) : ab_ms scr 192 [.ref v0, .int v1, .int v2, .int v3] M = ab_res scr 192 2 M 0 [some (.ref v0), some (.int v1), some (.int v2), some (.int v3)] [] := rfl
theorem ms193 {scr : Option (List Int32)} {M : ab_M} (v0 : Nat) (v1 : Int32) (v2 : Int32) (v3 : Int32) (v4 : Int32) : ab_ms scr 193 [.ref v0, .int v1, .int v2, .int v3, .int v4] M = ab_res scr 193 3 M 0 [some (.ref v0), some (.int v1), some (.int v2), some (.int v3), some (.int v4), none, none, none] [] := rfl
theorem ms194 {scr : Option (List Int32)} {M : ab_M} (v0 : Nat) : ab_ms scr 194 [.ref v0] M = ab_res scr 194 1 M 0 [some (.ref v0)] [] := rfl
theorem ms195 {scr : Option (List Int32)} {M : ab_M} (v0 : Nat) (v1 : Int32) : ab_ms scr 195 [.ref v0, .int v1] M = ab_res scr 195 2 M 0 [some (.ref v0), some (.int v1), none, none] [] := rfl
theorem ms196 {scr : Option (List Int32)} {M : ab_M} (v0 : Int32) : ab_ms scr 196 [.int v0] M = ab_res scr 196 1 M 0 [some (.int v0)] [] := rfl
theorem ms197 {scr : Option (List Int32)} {M : ab_M} (v0 : Nat) : ab_ms scr 197 [.ref v0] M = ab_res scr 197 2 M 0 [some (.ref v0)] [] := rfl
theorem ms198 {scr : Option (List Int32)} {M : ab_M} (v0 : Nat) (v1 : Int32) : ab_ms scr 198 [.ref v0, .int v1] M = ab_res scr 198 4 M 0 [some (.ref v0), some (.int v1)] [] := rfl
theorem ms199 {scr : Option (List Int32)} {M : ab_M} (v0 : Nat) : ab_ms scr 199 [.ref v0] M = ab_res scr 199 1 M 0 [some (.ref v0)] [] := rfl
theorem ms200 {scr : Option (List Int32)} {M : ab_M} (v0 : Nat) : ab_ms scr 200 [.ref v0] M = ab_res scr 200 1 M 0 [some (.ref v0)] [] := rfl
theorem ms201 {scr : Option (List Int32)} {M : ab_M} (v0 : Int32) (v1 : Int32) : ab_ms scr 201 [.int v0, .int v1] M = ab_res scr 201 2 M 0 [some (.int v0), some (.int v1)] [] := rfl
theorem ms202 {scr : Option (List Int32)} {M : ab_M} (v0 : Nat) (v1 : Int32) : ab_ms scr 202 [.ref v0, .int v1] M = ab_res scr 202 3 M 0 [some (.ref v0), some (.int v1)] [] := rfl
theorem ms203 {scr : Option (List Int32)} {M : ab_M} (v0 : Nat) (v1 : Int32) : ab_ms scr 203 [.ref v0, .int v1] M = ab_res scr 203 1 M 0 [some (.ref v0), some (.int v1), none, none] [] := rfl
theorem ms204 {scr : Option (List Int32)} {M : ab_M} (v0 : Int32) (v1 : Int32) : ab_ms scr 204 [.int v0, .int v1, .null] M = ab_res scr 204 1 M 0 [some (.int v0), some (.int v1), some (.null)] [] := rfl
theorem ms205 {scr : Option (List Int32)} {M : ab_M} (v0 : Nat) : ab_ms scr 205 [.ref v0] M = ab_res scr 205 13 M 0 [some (.ref v0), none, none, none] [] := rfl
