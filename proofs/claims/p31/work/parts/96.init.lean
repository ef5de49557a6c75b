/-! the making of all cells -/
def sS_0 : List az_Shp := []
theorem sl_0 : sS_0.length = 0 := rfl
def sS_1 : List az_Shp := sS_0 ++ [(0, 6, az_df 6)]
theorem ln_0 : sS_0 ++ [(0, 6, az_df 6)] = sS_1 := rfl
theorem sl_1 : sS_1.length = 1 := by decide +kernel
theorem lc_1_40 {rest : List Value} (h : az_cat rest ≤ 8) : az_cc 40 sS_1 [.ref 0] rest := ⟨h, by decide, Or.inr (Or.inr (by decide +kernel))⟩
def sS_2 : List az_Shp := sS_1 ++ [(0, 3, az_df 3)]
theorem ln_1 : sS_1 ++ [(0, 3, az_df 3)] = sS_2 := rfl
theorem sl_2 : sS_2.length = 2 := by decide +kernel
theorem lc_2_18 {rest : List Value} (h : az_cat rest ≤ 8) : az_cc 18 sS_2 [.ref 1] rest := ⟨h, by decide, Or.inr (Or.inr (by decide +kernel))⟩
def sS_3 : List az_Shp := sS_2 ++ [(1, 3, [])]
theorem ln_2 : sS_2 ++ [(1, 3, [])] = sS_3 := rfl
theorem sl_3 : sS_3.length = 3 := by decide +kernel
theorem li_3_2_0 : az_isA sS_3 1 2 0 = true := by decide +kernel
theorem li_3_2_1 : az_isA sS_3 1 2 1 = true := by decide +kernel
theorem li_3_2_2 : az_isA sS_3 1 2 2 = true := by decide +kernel
def sS_4 : List az_Shp := sS_3.set 1 (0, 3, [some (some 2), some none, some none])
theorem lp_3 : az_pfr sS_3 18 1 3 0 2 = some sS_4 := by decide +kernel
theorem sl_4 : sS_4.length = 3 := by decide +kernel
def sS_5 : List az_Shp := sS_4 ++ [(1, 3, [])]
theorem ln_4 : sS_4 ++ [(1, 3, [])] = sS_5 := rfl
theorem sl_5 : sS_5.length = 4 := by decide +kernel
theorem li_5_3_0 : az_isA sS_5 1 3 0 = true := by decide +kernel
theorem li_5_3_1 : az_isA sS_5 1 3 1 = true := by decide +kernel
theorem li_5_3_2 : az_isA sS_5 1 3 2 = true := by decide +kernel
def sS_6 : List az_Shp := sS_5.set 1 (0, 3, [some (some 2), some (some 3), some none])
theorem lp_5 : az_pfr sS_5 18 1 3 1 3 = some sS_6 := by decide +kernel
theorem sl_6 : sS_6.length = 4 := by decide +kernel
def sS_7 : List az_Shp := sS_6 ++ [(1, 3, [])]
theorem ln_6 : sS_6 ++ [(1, 3, [])] = sS_7 := rfl
theorem sl_7 : sS_7.length = 5 := by decide +kernel
theorem li_7_4_0 : az_isA sS_7 1 4 0 = true := by decide +kernel
theorem li_7_4_1 : az_isA sS_7 1 4 1 = true := by decide +kernel
theorem li_7_4_2 : az_isA sS_7 1 4 2 = true := by decide +kernel
def sS_8 : List az_Shp := sS_7.set 1 (0, 3, [some (some 2), some (some 3), some (some 4)])
theorem lp_7 : az_pfr sS_7 18 1 3 2 4 = some sS_8 := by decide +kernel
theorem sl_8 : sS_8.length = 5 := by decide +kernel
def sS_9 : List az_Shp := sS_8.set 0 (0, 6, [some (some 1), some none, some none, some none, some none, some none, none])
theorem lp_8 : az_pfr sS_8 40 0 6 0 1 = some sS_9 := by decide +kernel
theorem sl_9 : sS_9.length = 5 := by decide +kernel
def sS_10 : List az_Shp := sS_9 ++ [(0, 2, az_df 2)]
theorem ln_9 : sS_9 ++ [(0, 2, az_df 2)] = sS_10 := rfl
theorem sl_10 : sS_10.length = 6 := by decide +kernel
theorem lc_10_16 {rest : List Value} (h : az_cat rest ≤ 8) : az_cc 16 sS_10 [.ref 5] rest := ⟨h, by decide, Or.inr (Or.inr (by decide +kernel))⟩
def sS_11 : List az_Shp := sS_10 ++ [(2, 4, [])]
theorem ln_10 : sS_10 ++ [(2, 4, [])] = sS_11 := rfl
theorem sl_11 : sS_11.length = 7 := by decide +kernel
def sS_12 : List az_Shp := sS_11.set 5 (0, 2, [some (some 6), some none, some none, some none, some none, some none, some none, some none, some none])
theorem lp_11 : az_pfr sS_11 16 5 2 0 6 = some sS_12 := by decide +kernel
theorem sl_12 : sS_12.length = 7 := by decide +kernel
def sS_13 : List az_Shp := sS_12 ++ [(1, 4, [])]
theorem ln_12 : sS_12 ++ [(1, 4, [])] = sS_13 := rfl
theorem sl_13 : sS_13.length = 8 := by decide +kernel
def sS_14 : List az_Shp := sS_13.set 5 (0, 2, [some (some 6), some (some 7), some none, some none, some none, some none, some none, some none, some none])
theorem lp_13 : az_pfr sS_13 16 5 2 1 7 = some sS_14 := by decide +kernel
theorem sl_14 : sS_14.length = 8 := by decide +kernel
def sS_15 : List az_Shp := sS_14 ++ [(1, 4, [])]
theorem ln_14 : sS_14 ++ [(1, 4, [])] = sS_15 := rfl
theorem sl_15 : sS_15.length = 9 := by decide +kernel
def sS_16 : List az_Shp := sS_15.set 5 (0, 2, [some (some 6), some (some 7), some (some 8), some none, some none, some none, some none, some none, some none])
theorem lp_15 : az_pfr sS_15 16 5 2 2 8 = some sS_16 := by decide +kernel
theorem sl_16 : sS_16.length = 9 := by decide +kernel
def sS_17 : List az_Shp := sS_16 ++ [(1, 4, [])]
theorem ln_16 : sS_16 ++ [(1, 4, [])] = sS_17 := rfl
theorem sl_17 : sS_17.length = 10 := by decide +kernel
def sS_18 : List az_Shp := sS_17.set 5 (0, 2, [some (some 6), some (some 7), some (some 8), some (some 9), some none, some none, some none, some none, some none])
theorem lp_17 : az_pfr sS_17 16 5 2 3 9 = some sS_18 := by decide +kernel
theorem sl_18 : sS_18.length = 10 := by decide +kernel
def sS_19 : List az_Shp := sS_18 ++ [(1, 4, [])]
theorem ln_18 : sS_18 ++ [(1, 4, [])] = sS_19 := rfl
theorem sl_19 : sS_19.length = 11 := by decide +kernel
def sS_20 : List az_Shp := sS_19.set 5 (0, 2, [some (some 6), some (some 7), some (some 8), some (some 9), some (some 10), some none, some none, some none, some none])
theorem lp_19 : az_pfr sS_19 16 5 2 4 10 = some sS_20 := by decide +kernel
theorem sl_20 : sS_20.length = 11 := by decide +kernel
def sS_21 : List az_Shp := sS_20 ++ [(1, 4, [])]
theorem ln_20 : sS_20 ++ [(1, 4, [])] = sS_21 := rfl
theorem sl_21 : sS_21.length = 12 := by decide +kernel
def sS_22 : List az_Shp := sS_21.set 5 (0, 2, [some (some 6), some (some 7), some (some 8), some (some 9), some (some 10), some (some 11), some none, some none, some none])
theorem lp_21 : az_pfr sS_21 16 5 2 5 11 = some sS_22 := by decide +kernel
theorem sl_22 : sS_22.length = 12 := by decide +kernel
def sS_23 : List az_Shp := sS_22 ++ [(1, 4, [])]
theorem ln_22 : sS_22 ++ [(1, 4, [])] = sS_23 := rfl
theorem sl_23 : sS_23.length = 13 := by decide +kernel
def sS_24 : List az_Shp := sS_23.set 5 (0, 2, [some (some 6), some (some 7), some (some 8), some (some 9), some (some 10), some (some 11), some (some 12), some none, some none])
theorem lp_23 : az_pfr sS_23 16 5 2 6 12 = some sS_24 := by decide +kernel
theorem sl_24 : sS_24.length = 13 := by decide +kernel
def sS_25 : List az_Shp := sS_24 ++ [(1, 4, [])]
theorem ln_24 : sS_24 ++ [(1, 4, [])] = sS_25 := rfl
theorem sl_25 : sS_25.length = 14 := by decide +kernel
def sS_26 : List az_Shp := sS_25.set 5 (0, 2, [some (some 6), some (some 7), some (some 8), some (some 9), some (some 10), some (some 11), some (some 12), some (some 13), some none])
theorem lp_25 : az_pfr sS_25 16 5 2 7 13 = some sS_26 := by decide +kernel
theorem sl_26 : sS_26.length = 14 := by decide +kernel
def sS_27 : List az_Shp := (sS_26 ++ [(4, 3, (List.range 3).map fun j => some (some (15 + j)))]) ++ List.replicate 3 (1, 4, [])
theorem ln_26 : (sS_26 ++ [(4, 3, (List.range 3).map fun j => some (some (15 + j)))]) ++ List.replicate 3 (1, 4, []) = sS_27 := rfl
theorem sl_27 : sS_27.length = 18 := by decide +kernel
def sS_28 : List az_Shp := sS_27.set 5 (0, 2, [some (some 6), some (some 7), some (some 8), some (some 9), some (some 10), some (some 11), some (some 12), some (some 13), some (some 14)])
theorem lp_27 : az_pfr sS_27 16 5 2 8 14 = some sS_28 := by decide +kernel
theorem sl_28 : sS_28.length = 18 := by decide +kernel
def sS_29 : List az_Shp := sS_28.set 0 (0, 6, [some (some 1), some (some 5), some none, some none, some none, some none, none])
theorem lp_28 : az_pfr sS_28 40 0 6 1 5 = some sS_29 := by decide +kernel
theorem sl_29 : sS_29.length = 18 := by decide +kernel
def sS_30 : List az_Shp := sS_29 ++ [(0, 1, az_df 1)]
theorem ln_29 : sS_29 ++ [(0, 1, az_df 1)] = sS_30 := rfl
theorem sl_30 : sS_30.length = 19 := by decide +kernel
theorem lc_30_12 {rest : List Value} (h : az_cat rest ≤ 8) : az_cc 12 sS_30 [.ref 18] rest := ⟨h, by decide, Or.inr (Or.inr (by decide +kernel))⟩
def sS_31 : List az_Shp := sS_30 ++ [(1, 12, [])]
theorem ln_30 : sS_30 ++ [(1, 12, [])] = sS_31 := rfl
theorem sl_31 : sS_31.length = 20 := by decide +kernel
def sS_32 : List az_Shp := sS_31.set 18 (0, 1, [some (some 19), some none, some none, some none, some none, some none, some none, some none, some none, none])
theorem lp_31 : az_pfr sS_31 12 18 1 0 19 = some sS_32 := by decide +kernel
theorem sl_32 : sS_32.length = 20 := by decide +kernel
def sS_33 : List az_Shp := sS_32 ++ [(1, 12, [])]
theorem ln_32 : sS_32 ++ [(1, 12, [])] = sS_33 := rfl
theorem sl_33 : sS_33.length = 21 := by decide +kernel
def sS_34 : List az_Shp := sS_33.set 18 (0, 1, [some (some 19), some (some 20), some none, some none, some none, some none, some none, some none, some none, none])
theorem lp_33 : az_pfr sS_33 12 18 1 1 20 = some sS_34 := by decide +kernel
theorem sl_34 : sS_34.length = 21 := by decide +kernel
def sS_35 : List az_Shp := sS_34 ++ [(1, 12, [])]
theorem ln_34 : sS_34 ++ [(1, 12, [])] = sS_35 := rfl
theorem sl_35 : sS_35.length = 22 := by decide +kernel
def sS_36 : List az_Shp := sS_35.set 18 (0, 1, [some (some 19), some (some 20), some (some 21), some none, some none, some none, some none, some none, some none, none])
theorem lp_35 : az_pfr sS_35 12 18 1 2 21 = some sS_36 := by decide +kernel
theorem sl_36 : sS_36.length = 22 := by decide +kernel
def sS_37 : List az_Shp := sS_36 ++ [(1, 12, [])]
theorem ln_36 : sS_36 ++ [(1, 12, [])] = sS_37 := rfl
theorem sl_37 : sS_37.length = 23 := by decide +kernel
def sS_38 : List az_Shp := sS_37.set 18 (0, 1, [some (some 19), some (some 20), some (some 21), some (some 22), some none, some none, some none, some none, some none, none])
theorem lp_37 : az_pfr sS_37 12 18 1 3 22 = some sS_38 := by decide +kernel
theorem sl_38 : sS_38.length = 23 := by decide +kernel
def sS_39 : List az_Shp := sS_38 ++ [(1, 12, [])]
theorem ln_38 : sS_38 ++ [(1, 12, [])] = sS_39 := rfl
theorem sl_39 : sS_39.length = 24 := by decide +kernel
def sS_40 : List az_Shp := sS_39.set 18 (0, 1, [some (some 19), some (some 20), some (some 21), some (some 22), some (some 23), some none, some none, some none, some none, none])
theorem lp_39 : az_pfr sS_39 12 18 1 4 23 = some sS_40 := by decide +kernel
theorem sl_40 : sS_40.length = 24 := by decide +kernel
def sS_41 : List az_Shp := sS_40 ++ [(1, 12, [])]
theorem ln_40 : sS_40 ++ [(1, 12, [])] = sS_41 := rfl
theorem sl_41 : sS_41.length = 25 := by decide +kernel
def sS_42 : List az_Shp := sS_41.set 18 (0, 1, [some (some 19), some (some 20), some (some 21), some (some 22), some (some 23), some (some 24), some none, some none, some none, none])
theorem lp_41 : az_pfr sS_41 12 18 1 5 24 = some sS_42 := by decide +kernel
theorem sl_42 : sS_42.length = 25 := by decide +kernel
def sS_43 : List az_Shp := sS_42 ++ [(1, 12, [])]
theorem ln_42 : sS_42 ++ [(1, 12, [])] = sS_43 := rfl
theorem sl_43 : sS_43.length = 26 := by decide +kernel
def sS_44 : List az_Shp := sS_43.set 18 (0, 1, [some (some 19), some (some 20), some (some 21), some (some 22), some (some 23), some (some 24), some (some 25), some none, some none, none])
theorem lp_43 : az_pfr sS_43 12 18 1 6 25 = some sS_44 := by decide +kernel
theorem sl_44 : sS_44.length = 26 := by decide +kernel
def sS_45 : List az_Shp := sS_44 ++ [(1, 12, [])]
theorem ln_44 : sS_44 ++ [(1, 12, [])] = sS_45 := rfl
theorem sl_45 : sS_45.length = 27 := by decide +kernel
def sS_46 : List az_Shp := sS_45.set 18 (0, 1, [some (some 19), some (some 20), some (some 21), some (some 22), some (some 23), some (some 24), some (some 25), some (some 26), some none, none])
theorem lp_45 : az_pfr sS_45 12 18 1 7 26 = some sS_46 := by decide +kernel
theorem sl_46 : sS_46.length = 27 := by decide +kernel
def sS_47 : List az_Shp := sS_46 ++ [(1, 12, [])]
theorem ln_46 : sS_46 ++ [(1, 12, [])] = sS_47 := rfl
theorem sl_47 : sS_47.length = 28 := by decide +kernel
def sS_48 : List az_Shp := sS_47.set 18 (0, 1, [some (some 19), some (some 20), some (some 21), some (some 22), some (some 23), some (some 24), some (some 25), some (some 26), some (some 27), none])
theorem lp_47 : az_pfr sS_47 12 18 1 8 27 = some sS_48 := by decide +kernel
theorem sl_48 : sS_48.length = 28 := by decide +kernel
theorem lq_48_18_9 : az_pfi sS_48 12 18 1 9 = true := by decide +kernel
def sS_49 : List az_Shp := sS_48.set 0 (0, 6, [some (some 1), some (some 5), some (some 18), some none, some none, some none, none])
theorem lp_48 : az_pfr sS_48 40 0 6 2 18 = some sS_49 := by decide +kernel
theorem sl_49 : sS_49.length = 28 := by decide +kernel
def sS_50 : List az_Shp := sS_49 ++ [(0, 4, az_df 4)]
theorem ln_49 : sS_49 ++ [(0, 4, az_df 4)] = sS_50 := rfl
theorem sl_50 : sS_50.length = 29 := by decide +kernel
theorem lc_50_19 {rest : List Value} (h : az_cat rest ≤ 8) : az_cc 19 sS_50 [.ref 28] rest := ⟨h, by decide, Or.inr (Or.inr (by decide +kernel))⟩
def sS_51 : List az_Shp := sS_50 ++ [(1, 60, [])]
theorem ln_50 : sS_50 ++ [(1, 60, [])] = sS_51 := rfl
theorem sl_51 : sS_51.length = 30 := by decide +kernel
def sS_52 : List az_Shp := sS_51.set 28 (0, 4, [some (some 29), some none, some none, some none, some none, some none, some none, none])
theorem lp_51 : az_pfr sS_51 19 28 4 0 29 = some sS_52 := by decide +kernel
theorem sl_52 : sS_52.length = 30 := by decide +kernel
def sS_53 : List az_Shp := sS_52 ++ [(1, 60, [])]
theorem ln_52 : sS_52 ++ [(1, 60, [])] = sS_53 := rfl
theorem sl_53 : sS_53.length = 31 := by decide +kernel
def sS_54 : List az_Shp := sS_53.set 28 (0, 4, [some (some 29), some (some 30), some none, some none, some none, some none, some none, none])
theorem lp_53 : az_pfr sS_53 19 28 4 1 30 = some sS_54 := by decide +kernel
theorem sl_54 : sS_54.length = 31 := by decide +kernel
def sS_55 : List az_Shp := sS_54 ++ [(1, 60, [])]
theorem ln_54 : sS_54 ++ [(1, 60, [])] = sS_55 := rfl
theorem sl_55 : sS_55.length = 32 := by decide +kernel
def sS_56 : List az_Shp := sS_55.set 28 (0, 4, [some (some 29), some (some 30), some (some 31), some none, some none, some none, some none, none])
theorem lp_55 : az_pfr sS_55 19 28 4 2 31 = some sS_56 := by decide +kernel
theorem sl_56 : sS_56.length = 32 := by decide +kernel
def sS_57 : List az_Shp := sS_56 ++ [(1, 60, [])]
theorem ln_56 : sS_56 ++ [(1, 60, [])] = sS_57 := rfl
theorem sl_57 : sS_57.length = 33 := by decide +kernel
def sS_58 : List az_Shp := sS_57.set 28 (0, 4, [some (some 29), some (some 30), some (some 31), some (some 32), some none, some none, some none, none])
theorem lp_57 : az_pfr sS_57 19 28 4 3 32 = some sS_58 := by decide +kernel
theorem sl_58 : sS_58.length = 33 := by decide +kernel
def sS_59 : List az_Shp := sS_58 ++ [(1, 60, [])]
theorem ln_58 : sS_58 ++ [(1, 60, [])] = sS_59 := rfl
theorem sl_59 : sS_59.length = 34 := by decide +kernel
def sS_60 : List az_Shp := sS_59.set 28 (0, 4, [some (some 29), some (some 30), some (some 31), some (some 32), some (some 33), some none, some none, none])
theorem lp_59 : az_pfr sS_59 19 28 4 4 33 = some sS_60 := by decide +kernel
theorem sl_60 : sS_60.length = 34 := by decide +kernel
def sS_61 : List az_Shp := sS_60 ++ [(1, 60, [])]
theorem ln_60 : sS_60 ++ [(1, 60, [])] = sS_61 := rfl
theorem sl_61 : sS_61.length = 35 := by decide +kernel
def sS_62 : List az_Shp := sS_61.set 28 (0, 4, [some (some 29), some (some 30), some (some 31), some (some 32), some (some 33), some (some 34), some none, none])
theorem lp_61 : az_pfr sS_61 19 28 4 5 34 = some sS_62 := by decide +kernel
theorem sl_62 : sS_62.length = 35 := by decide +kernel
def sS_63 : List az_Shp := sS_62 ++ [(1, 60, [])]
theorem ln_62 : sS_62 ++ [(1, 60, [])] = sS_63 := rfl
theorem sl_63 : sS_63.length = 36 := by decide +kernel
def sS_64 : List az_Shp := sS_63.set 28 (0, 4, [some (some 29), some (some 30), some (some 31), some (some 32), some (some 33), some (some 34), some (some 35), none])
theorem lp_63 : az_pfr sS_63 19 28 4 6 35 = some sS_64 := by decide +kernel
theorem sl_64 : sS_64.length = 36 := by decide +kernel
theorem lq_64_28_7 : az_pfi sS_64 19 28 4 7 = true := by decide +kernel
def sS_65 : List az_Shp := sS_64.set 0 (0, 6, [some (some 1), some (some 5), some (some 18), some (some 28), some none, some none, none])
theorem lp_64 : az_pfr sS_64 40 0 6 3 28 = some sS_65 := by decide +kernel
theorem sl_65 : sS_65.length = 36 := by decide +kernel
def sS_66 : List az_Shp := sS_65 ++ [(0, 0, az_df 0)]
theorem ln_65 : sS_65 ++ [(0, 0, az_df 0)] = sS_66 := rfl
theorem sl_66 : sS_66.length = 37 := by decide +kernel
theorem lc_66_0 {rest : List Value} (h : az_cat rest ≤ 8) : az_cc 0 sS_66 [.ref 36] rest := ⟨h, by decide, Or.inr (Or.inr (by decide +kernel))⟩
def sS_67 : List az_Shp := sS_66 ++ [(2, 6, [])]
theorem ln_66 : sS_66 ++ [(2, 6, [])] = sS_67 := rfl
theorem sl_67 : sS_67.length = 38 := by decide +kernel
def sS_68 : List az_Shp := sS_67.set 36 (0, 0, [some (some 37), some none, some none, some none, some none, none, none, none])
theorem lp_67 : az_pfr sS_67 0 36 0 0 37 = some sS_68 := by decide +kernel
theorem sl_68 : sS_68.length = 38 := by decide +kernel
def sS_69 : List az_Shp := sS_68 ++ [(1, 6, [])]
theorem ln_68 : sS_68 ++ [(1, 6, [])] = sS_69 := rfl
theorem sl_69 : sS_69.length = 39 := by decide +kernel
def sS_70 : List az_Shp := sS_69.set 36 (0, 0, [some (some 37), some (some 38), some none, some none, some none, none, none, none])
theorem lp_69 : az_pfr sS_69 0 36 0 1 38 = some sS_70 := by decide +kernel
theorem sl_70 : sS_70.length = 39 := by decide +kernel
def sS_71 : List az_Shp := sS_70 ++ [(1, 6, [])]
theorem ln_70 : sS_70 ++ [(1, 6, [])] = sS_71 := rfl
theorem sl_71 : sS_71.length = 40 := by decide +kernel
def sS_72 : List az_Shp := sS_71.set 36 (0, 0, [some (some 37), some (some 38), some (some 39), some none, some none, none, none, none])
theorem lp_71 : az_pfr sS_71 0 36 0 2 39 = some sS_72 := by decide +kernel
theorem sl_72 : sS_72.length = 40 := by decide +kernel
def sS_73 : List az_Shp := sS_72 ++ [(1, 6, [])]
theorem ln_72 : sS_72 ++ [(1, 6, [])] = sS_73 := rfl
theorem sl_73 : sS_73.length = 41 := by decide +kernel
def sS_74 : List az_Shp := sS_73.set 36 (0, 0, [some (some 37), some (some 38), some (some 39), some (some 40), some none, none, none, none])
theorem lp_73 : az_pfr sS_73 0 36 0 3 40 = some sS_74 := by decide +kernel
theorem sl_74 : sS_74.length = 41 := by decide +kernel
def sS_75 : List az_Shp := (sS_74 ++ [(4, 64, (List.range 64).map fun j => some (some (42 + j)))]) ++ List.replicate 64 (1, 32, [])
theorem ln_74 : (sS_74 ++ [(4, 64, (List.range 64).map fun j => some (some (42 + j)))]) ++ List.replicate 64 (1, 32, []) = sS_75 := rfl
theorem sl_75 : sS_75.length = 106 := by decide +kernel
def sS_76 : List az_Shp := sS_75.set 36 (0, 0, [some (some 37), some (some 38), some (some 39), some (some 40), some (some 41), none, none, none])
theorem lp_75 : az_pfr sS_75 0 36 0 4 41 = some sS_76 := by decide +kernel
theorem sl_76 : sS_76.length = 106 := by decide +kernel
theorem lq_76_36_5 : az_pfi sS_76 0 36 0 5 = true := by decide +kernel
theorem lq_76_36_6 : az_pfi sS_76 0 36 0 6 = true := by decide +kernel
theorem lq_76_36_7 : az_pfi sS_76 0 36 0 7 = true := by decide +kernel
def sS_77 : List az_Shp := sS_76.set 0 (0, 6, [some (some 1), some (some 5), some (some 18), some (some 28), some (some 36), some none, none])
theorem lp_76 : az_pfr sS_76 40 0 6 4 36 = some sS_77 := by decide +kernel
theorem sl_77 : sS_77.length = 106 := by decide +kernel
def sS_78 : List az_Shp := sS_77 ++ [(0, 5, az_df 5)]
theorem ln_77 : sS_77 ++ [(0, 5, az_df 5)] = sS_78 := rfl
theorem sl_78 : sS_78.length = 107 := by decide +kernel
theorem lc_78_33 {rest : List Value} (h : az_cat rest ≤ 8) : az_cc 33 sS_78 [.ref 106] rest := ⟨h, by decide, Or.inr (Or.inr (by decide +kernel))⟩
def sS_79 : List az_Shp := sS_78 ++ [(1, 40, [])]
theorem ln_78 : sS_78 ++ [(1, 40, [])] = sS_79 := rfl
theorem sl_79 : sS_79.length = 108 := by decide +kernel
def sS_80 : List az_Shp := sS_79.set 106 (0, 5, [some (some 107), some none, some none, some none, some none, none])
theorem lp_79 : az_pfr sS_79 33 106 5 0 107 = some sS_80 := by decide +kernel
theorem sl_80 : sS_80.length = 108 := by decide +kernel
def sS_81 : List az_Shp := sS_80 ++ [(1, 40, [])]
theorem ln_80 : sS_80 ++ [(1, 40, [])] = sS_81 := rfl
theorem sl_81 : sS_81.length = 109 := by decide +kernel
def sS_82 : List az_Shp := sS_81.set 106 (0, 5, [some (some 107), some (some 108), some none, some none, some none, none])
theorem lp_81 : az_pfr sS_81 33 106 5 1 108 = some sS_82 := by decide +kernel
theorem sl_82 : sS_82.length = 109 := by decide +kernel
def sS_83 : List az_Shp := sS_82 ++ [(1, 40, [])]
theorem ln_82 : sS_82 ++ [(1, 40, [])] = sS_83 := rfl
theorem sl_83 : sS_83.length = 110 := by decide +kernel
def sS_84 : List az_Shp := sS_83.set 106 (0, 5, [some (some 107), some (some 108), some (some 109), some none, some none, none])
theorem lp_83 : az_pfr sS_83 33 106 5 2 109 = some sS_84 := by decide +kernel
theorem sl_84 : sS_84.length = 110 := by decide +kernel
def sS_85 : List az_Shp := sS_84 ++ [(1, 40, [])]
theorem ln_84 : sS_84 ++ [(1, 40, [])] = sS_85 := rfl
theorem sl_85 : sS_85.length = 111 := by decide +kernel
def sS_86 : List az_Shp := sS_85.set 106 (0, 5, [some (some 107), some (some 108), some (some 109), some (some 110), some none, none])
theorem lp_85 : az_pfr sS_85 33 106 5 3 110 = some sS_86 := by decide +kernel
theorem sl_86 : sS_86.length = 111 := by decide +kernel
def sS_87 : List az_Shp := (sS_86 ++ [(4, 40, (List.range 40).map fun j => some (some (112 + j)))]) ++ List.replicate 40 (1, 60, [])
theorem ln_86 : (sS_86 ++ [(4, 40, (List.range 40).map fun j => some (some (112 + j)))]) ++ List.replicate 40 (1, 60, []) = sS_87 := rfl
theorem sl_87 : sS_87.length = 152 := by decide +kernel
def sS_88 : List az_Shp := sS_87.set 106 (0, 5, [some (some 107), some (some 108), some (some 109), some (some 110), some (some 111), none])
theorem lp_87 : az_pfr sS_87 33 106 5 4 111 = some sS_88 := by decide +kernel
theorem sl_88 : sS_88.length = 152 := by decide +kernel
theorem lq_88_106_5 : az_pfi sS_88 33 106 5 5 = true := by decide +kernel
def sS_89 : List az_Shp := sS_88.set 0 (0, 6, [some (some 1), some (some 5), some (some 18), some (some 28), some (some 36), some (some 106), none])
theorem lp_88 : az_pfr sS_88 40 0 6 5 106 = some sS_89 := by decide +kernel
theorem sl_89 : sS_89.length = 152 := by decide +kernel
theorem lq_89_0_6 : az_pfi sS_89 40 0 6 6 = true := by decide +kernel
def sS_90 : List az_Shp := sS_89 ++ [(0, 6, az_df 6)]
theorem ln_89 : sS_89 ++ [(0, 6, az_df 6)] = sS_90 := rfl
theorem sl_90 : sS_90.length = 153 := by decide +kernel
theorem lc_90_40 {rest : List Value} (h : az_cat rest ≤ 8) : az_cc 40 sS_90 [.ref 152] rest := ⟨h, by decide, Or.inr (Or.inr (by decide +kernel))⟩
def sS_91 : List az_Shp := sS_90 ++ [(0, 3, az_df 3)]
theorem ln_90 : sS_90 ++ [(0, 3, az_df 3)] = sS_91 := rfl
theorem sl_91 : sS_91.length = 154 := by decide +kernel
theorem lc_91_18 {rest : List Value} (h : az_cat rest ≤ 8) : az_cc 18 sS_91 [.ref 153] rest := ⟨h, by decide, Or.inr (Or.inr (by decide +kernel))⟩
def sS_92 : List az_Shp := sS_91 ++ [(1, 3, [])]
theorem ln_91 : sS_91 ++ [(1, 3, [])] = sS_92 := rfl
theorem sl_92 : sS_92.length = 155 := by decide +kernel
theorem li_92_154_0 : az_isA sS_92 1 154 0 = true := by decide +kernel
theorem li_92_154_1 : az_isA sS_92 1 154 1 = true := by decide +kernel
theorem li_92_154_2 : az_isA sS_92 1 154 2 = true := by decide +kernel
def sS_93 : List az_Shp := sS_92.set 153 (0, 3, [some (some 154), some none, some none])
theorem lp_92 : az_pfr sS_92 18 153 3 0 154 = some sS_93 := by decide +kernel
theorem sl_93 : sS_93.length = 155 := by decide +kernel
def sS_94 : List az_Shp := sS_93 ++ [(1, 3, [])]
theorem ln_93 : sS_93 ++ [(1, 3, [])] = sS_94 := rfl
theorem sl_94 : sS_94.length = 156 := by decide +kernel
theorem li_94_155_0 : az_isA sS_94 1 155 0 = true := by decide +kernel
theorem li_94_155_1 : az_isA sS_94 1 155 1 = true := by decide +kernel
theorem li_94_155_2 : az_isA sS_94 1 155 2 = true := by decide +kernel
def sS_95 : List az_Shp := sS_94.set 153 (0, 3, [some (some 154), some (some 155), some none])
theorem lp_94 : az_pfr sS_94 18 153 3 1 155 = some sS_95 := by decide +kernel
theorem sl_95 : sS_95.length = 156 := by decide +kernel
def sS_96 : List az_Shp := sS_95 ++ [(1, 3, [])]
theorem ln_95 : sS_95 ++ [(1, 3, [])] = sS_96 := rfl
theorem sl_96 : sS_96.length = 157 := by decide +kernel
theorem li_96_156_0 : az_isA sS_96 1 156 0 = true := by decide +kernel
theorem li_96_156_1 : az_isA sS_96 1 156 1 = true := by decide +kernel
theorem li_96_156_2 : az_isA sS_96 1 156 2 = true := by decide +kernel
def sS_97 : List az_Shp := sS_96.set 153 (0, 3, [some (some 154), some (some 155), some (some 156)])
theorem lp_96 : az_pfr sS_96 18 153 3 2 156 = some sS_97 := by decide +kernel
theorem sl_97 : sS_97.length = 157 := by decide +kernel
def sS_98 : List az_Shp := sS_97.set 152 (0, 6, [some (some 153), some none, some none, some none, some none, some none, none])
theorem lp_97 : az_pfr sS_97 40 152 6 0 153 = some sS_98 := by decide +kernel
theorem sl_98 : sS_98.length = 157 := by decide +kernel
def sS_99 : List az_Shp := sS_98 ++ [(0, 2, az_df 2)]
theorem ln_98 : sS_98 ++ [(0, 2, az_df 2)] = sS_99 := rfl
theorem sl_99 : sS_99.length = 158 := by decide +kernel
theorem lc_99_16 {rest : List Value} (h : az_cat rest ≤ 8) : az_cc 16 sS_99 [.ref 157] rest := ⟨h, by decide, Or.inr (Or.inr (by decide +kernel))⟩
def sS_100 : List az_Shp := sS_99 ++ [(2, 4, [])]
theorem ln_99 : sS_99 ++ [(2, 4, [])] = sS_100 := rfl
theorem sl_100 : sS_100.length = 159 := by decide +kernel
def sS_101 : List az_Shp := sS_100.set 157 (0, 2, [some (some 158), some none, some none, some none, some none, some none, some none, some none, some none])
theorem lp_100 : az_pfr sS_100 16 157 2 0 158 = some sS_101 := by decide +kernel
theorem sl_101 : sS_101.length = 159 := by decide +kernel
def sS_102 : List az_Shp := sS_101 ++ [(1, 4, [])]
theorem ln_101 : sS_101 ++ [(1, 4, [])] = sS_102 := rfl
theorem sl_102 : sS_102.length = 160 := by decide +kernel
def sS_103 : List az_Shp := sS_102.set 157 (0, 2, [some (some 158), some (some 159), some none, some none, some none, some none, some none, some none, some none])
theorem lp_102 : az_pfr sS_102 16 157 2 1 159 = some sS_103 := by decide +kernel
theorem sl_103 : sS_103.length = 160 := by decide +kernel
def sS_104 : List az_Shp := sS_103 ++ [(1, 4, [])]
theorem ln_103 : sS_103 ++ [(1, 4, [])] = sS_104 := rfl
theorem sl_104 : sS_104.length = 161 := by decide +kernel
def sS_105 : List az_Shp := sS_104.set 157 (0, 2, [some (some 158), some (some 159), some (some 160), some none, some none, some none, some none, some none, some none])
theorem lp_104 : az_pfr sS_104 16 157 2 2 160 = some sS_105 := by decide +kernel
theorem sl_105 : sS_105.length = 161 := by decide +kernel
def sS_106 : List az_Shp := sS_105 ++ [(1, 4, [])]
theorem ln_105 : sS_105 ++ [(1, 4, [])] = sS_106 := rfl
theorem sl_106 : sS_106.length = 162 := by decide +kernel
def sS_107 : List az_Shp := sS_106.set 157 (0, 2, [some (some 158), some (some 159), some (some 160), some (some 161), some none, some none, some none, some none, some none])
theorem lp_106 : az_pfr sS_106 16 157 2 3 161 = some sS_107 := by decide +kernel
theorem sl_107 : sS_107.length = 162 := by decide +kernel
def sS_108 : List az_Shp := sS_107 ++ [(1, 4, [])]
theorem ln_107 : sS_107 ++ [(1, 4, [])] = sS_108 := rfl
theorem sl_108 : sS_108.length = 163 := by decide +kernel
def sS_109 : List az_Shp := sS_108.set 157 (0, 2, [some (some 158), some (some 159), some (some 160), some (some 161), some (some 162), some none, some none, some none, some none])
theorem lp_108 : az_pfr sS_108 16 157 2 4 162 = some sS_109 := by decide +kernel
theorem sl_109 : sS_109.length = 163 := by decide +kernel
def sS_110 : List az_Shp := sS_109 ++ [(1, 4, [])]
theorem ln_109 : sS_109 ++ [(1, 4, [])] = sS_110 := rfl
theorem sl_110 : sS_110.length = 164 := by decide +kernel
def sS_111 : List az_Shp := sS_110.set 157 (0, 2, [some (some 158), some (some 159), some (some 160), some (some 161), some (some 162), some (some 163), some none, some none, some none])
theorem lp_110 : az_pfr sS_110 16 157 2 5 163 = some sS_111 := by decide +kernel
theorem sl_111 : sS_111.length = 164 := by decide +kernel
def sS_112 : List az_Shp := sS_111 ++ [(1, 4, [])]
theorem ln_111 : sS_111 ++ [(1, 4, [])] = sS_112 := rfl
theorem sl_112 : sS_112.length = 165 := by decide +kernel
def sS_113 : List az_Shp := sS_112.set 157 (0, 2, [some (some 158), some (some 159), some (some 160), some (some 161), some (some 162), some (some 163), some (some 164), some none, some none])
theorem lp_112 : az_pfr sS_112 16 157 2 6 164 = some sS_113 := by decide +kernel
theorem sl_113 : sS_113.length = 165 := by decide +kernel
def sS_114 : List az_Shp := sS_113 ++ [(1, 4, [])]
theorem ln_113 : sS_113 ++ [(1, 4, [])] = sS_114 := rfl
theorem sl_114 : sS_114.length = 166 := by decide +kernel
def sS_115 : List az_Shp := sS_114.set 157 (0, 2, [some (some 158), some (some 159), some (some 160), some (some 161), some (some 162), some (some 163), some (some 164), some (some 165), some none])
theorem lp_114 : az_pfr sS_114 16 157 2 7 165 = some sS_115 := by decide +kernel
theorem sl_115 : sS_115.length = 166 := by decide +kernel
def sS_116 : List az_Shp := (sS_115 ++ [(4, 3, (List.range 3).map fun j => some (some (167 + j)))]) ++ List.replicate 3 (1, 4, [])
theorem ln_115 : (sS_115 ++ [(4, 3, (List.range 3).map fun j => some (some (167 + j)))]) ++ List.replicate 3 (1, 4, []) = sS_116 := rfl
theorem sl_116 : sS_116.length = 170 := by decide +kernel
def sS_117 : List az_Shp := sS_116.set 157 (0, 2, [some (some 158), some (some 159), some (some 160), some (some 161), some (some 162), some (some 163), some (some 164), some (some 165), some (some 166)])
theorem lp_116 : az_pfr sS_116 16 157 2 8 166 = some sS_117 := by decide +kernel
theorem sl_117 : sS_117.length = 170 := by decide +kernel
def sS_118 : List az_Shp := sS_117.set 152 (0, 6, [some (some 153), some (some 157), some none, some none, some none, some none, none])
theorem lp_117 : az_pfr sS_117 40 152 6 1 157 = some sS_118 := by decide +kernel
theorem sl_118 : sS_118.length = 170 := by decide +kernel
def sS_119 : List az_Shp := sS_118 ++ [(0, 1, az_df 1)]
theorem ln_118 : sS_118 ++ [(0, 1, az_df 1)] = sS_119 := rfl
theorem sl_119 : sS_119.length = 171 := by decide +kernel
theorem lc_119_12 {rest : List Value} (h : az_cat rest ≤ 8) : az_cc 12 sS_119 [.ref 170] rest := ⟨h, by decide, Or.inr (Or.inr (by decide +kernel))⟩
def sS_120 : List az_Shp := sS_119 ++ [(1, 12, [])]
theorem ln_119 : sS_119 ++ [(1, 12, [])] = sS_120 := rfl
theorem sl_120 : sS_120.length = 172 := by decide +kernel
def sS_121 : List az_Shp := sS_120.set 170 (0, 1, [some (some 171), some none, some none, some none, some none, some none, some none, some none, some none, none])
theorem lp_120 : az_pfr sS_120 12 170 1 0 171 = some sS_121 := by decide +kernel
theorem sl_121 : sS_121.length = 172 := by decide +kernel
def sS_122 : List az_Shp := sS_121 ++ [(1, 12, [])]
theorem ln_121 : sS_121 ++ [(1, 12, [])] = sS_122 := rfl
theorem sl_122 : sS_122.length = 173 := by decide +kernel
def sS_123 : List az_Shp := sS_122.set 170 (0, 1, [some (some 171), some (some 172), some none, some none, some none, some none, some none, some none, some none, none])
theorem lp_122 : az_pfr sS_122 12 170 1 1 172 = some sS_123 := by decide +kernel
theorem sl_123 : sS_123.length = 173 := by decide +kernel
def sS_124 : List az_Shp := sS_123 ++ [(1, 12, [])]
theorem ln_123 : sS_123 ++ [(1, 12, [])] = sS_124 := rfl
theorem sl_124 : sS_124.length = 174 := by decide +kernel
def sS_125 : List az_Shp := sS_124.set 170 (0, 1, [some (some 171), some (some 172), some (some 173), some none, some none, some none, some none, some none, some none, none])
theorem lp_124 : az_pfr sS_124 12 170 1 2 173 = some sS_125 := by decide +kernel
theorem sl_125 : sS_125.length = 174 := by decide +kernel
def sS_126 : List az_Shp := sS_125 ++ [(1, 12, [])]
theorem ln_125 : sS_125 ++ [(1, 12, [])] = sS_126 := rfl
theorem sl_126 : sS_126.length = 175 := by decide +kernel
def sS_127 : List az_Shp := sS_126.set 170 (0, 1, [some (some 171), some (some 172), some (some 173), some (some 174), some none, some none, some none, some none, some none, none])
theorem lp_126 : az_pfr sS_126 12 170 1 3 174 = some sS_127 := by decide +kernel
theorem sl_127 : sS_127.length = 175 := by decide +kernel
def sS_128 : List az_Shp := sS_127 ++ [(1, 12, [])]
theorem ln_127 : sS_127 ++ [(1, 12, [])] = sS_128 := rfl
theorem sl_128 : sS_128.length = 176 := by decide +kernel
def sS_129 : List az_Shp := sS_128.set 170 (0, 1, [some (some 171), some (some 172), some (some 173), some (some 174), some (some 175), some none, some none, some none, some none, none])
theorem lp_128 : az_pfr sS_128 12 170 1 4 175 = some sS_129 := by decide +kernel
theorem sl_129 : sS_129.length = 176 := by decide +kernel
def sS_130 : List az_Shp := sS_129 ++ [(1, 12, [])]
theorem ln_129 : sS_129 ++ [(1, 12, [])] = sS_130 := rfl
theorem sl_130 : sS_130.length = 177 := by decide +kernel
def sS_131 : List az_Shp := sS_130.set 170 (0, 1, [some (some 171), some (some 172), some (some 173), some (some 174), some (some 175), some (some 176), some none, some none, some none, none])
theorem lp_130 : az_pfr sS_130 12 170 1 5 176 = some sS_131 := by decide +kernel
theorem sl_131 : sS_131.length = 177 := by decide +kernel
def sS_132 : List az_Shp := sS_131 ++ [(1, 12, [])]
theorem ln_131 : sS_131 ++ [(1, 12, [])] = sS_132 := rfl
theorem sl_132 : sS_132.length = 178 := by decide +kernel
def sS_133 : List az_Shp := sS_132.set 170 (0, 1, [some (some 171), some (some 172), some (some 173), some (some 174), some (some 175), some (some 176), some (some 177), some none, some none, none])
theorem lp_132 : az_pfr sS_132 12 170 1 6 177 = some sS_133 := by decide +kernel
theorem sl_133 : sS_133.length = 178 := by decide +kernel
def sS_134 : List az_Shp := sS_133 ++ [(1, 12, [])]
theorem ln_133 : sS_133 ++ [(1, 12, [])] = sS_134 := rfl
theorem sl_134 : sS_134.length = 179 := by decide +kernel
def sS_135 : List az_Shp := sS_134.set 170 (0, 1, [some (some 171), some (some 172), some (some 173), some (some 174), some (some 175), some (some 176), some (some 177), some (some 178), some none, none])
theorem lp_134 : az_pfr sS_134 12 170 1 7 178 = some sS_135 := by decide +kernel
theorem sl_135 : sS_135.length = 179 := by decide +kernel
def sS_136 : List az_Shp := sS_135 ++ [(1, 12, [])]
theorem ln_135 : sS_135 ++ [(1, 12, [])] = sS_136 := rfl
theorem sl_136 : sS_136.length = 180 := by decide +kernel
def sS_137 : List az_Shp := sS_136.set 170 (0, 1, [some (some 171), some (some 172), some (some 173), some (some 174), some (some 175), some (some 176), some (some 177), some (some 178), some (some 179), none])
theorem lp_136 : az_pfr sS_136 12 170 1 8 179 = some sS_137 := by decide +kernel
theorem sl_137 : sS_137.length = 180 := by decide +kernel
theorem lq_137_170_9 : az_pfi sS_137 12 170 1 9 = true := by decide +kernel
def sS_138 : List az_Shp := sS_137.set 152 (0, 6, [some (some 153), some (some 157), some (some 170), some none, some none, some none, none])
theorem lp_137 : az_pfr sS_137 40 152 6 2 170 = some sS_138 := by decide +kernel
theorem sl_138 : sS_138.length = 180 := by decide +kernel
def sS_139 : List az_Shp := sS_138 ++ [(0, 4, az_df 4)]
theorem ln_138 : sS_138 ++ [(0, 4, az_df 4)] = sS_139 := rfl
theorem sl_139 : sS_139.length = 181 := by decide +kernel
theorem lc_139_19 {rest : List Value} (h : az_cat rest ≤ 8) : az_cc 19 sS_139 [.ref 180] rest := ⟨h, by decide, Or.inr (Or.inr (by decide +kernel))⟩
def sS_140 : List az_Shp := sS_139 ++ [(1, 60, [])]
theorem ln_139 : sS_139 ++ [(1, 60, [])] = sS_140 := rfl
theorem sl_140 : sS_140.length = 182 := by decide +kernel
def sS_141 : List az_Shp := sS_140.set 180 (0, 4, [some (some 181), some none, some none, some none, some none, some none, some none, none])
theorem lp_140 : az_pfr sS_140 19 180 4 0 181 = some sS_141 := by decide +kernel
theorem sl_141 : sS_141.length = 182 := by decide +kernel
def sS_142 : List az_Shp := sS_141 ++ [(1, 60, [])]
theorem ln_141 : sS_141 ++ [(1, 60, [])] = sS_142 := rfl
theorem sl_142 : sS_142.length = 183 := by decide +kernel
def sS_143 : List az_Shp := sS_142.set 180 (0, 4, [some (some 181), some (some 182), some none, some none, some none, some none, some none, none])
theorem lp_142 : az_pfr sS_142 19 180 4 1 182 = some sS_143 := by decide +kernel
theorem sl_143 : sS_143.length = 183 := by decide +kernel
def sS_144 : List az_Shp := sS_143 ++ [(1, 60, [])]
theorem ln_143 : sS_143 ++ [(1, 60, [])] = sS_144 := rfl
theorem sl_144 : sS_144.length = 184 := by decide +kernel
def sS_145 : List az_Shp := sS_144.set 180 (0, 4, [some (some 181), some (some 182), some (some 183), some none, some none, some none, some none, none])
theorem lp_144 : az_pfr sS_144 19 180 4 2 183 = some sS_145 := by decide +kernel
theorem sl_145 : sS_145.length = 184 := by decide +kernel
def sS_146 : List az_Shp := sS_145 ++ [(1, 60, [])]
theorem ln_145 : sS_145 ++ [(1, 60, [])] = sS_146 := rfl
theorem sl_146 : sS_146.length = 185 := by decide +kernel
def sS_147 : List az_Shp := sS_146.set 180 (0, 4, [some (some 181), some (some 182), some (some 183), some (some 184), some none, some none, some none, none])
theorem lp_146 : az_pfr sS_146 19 180 4 3 184 = some sS_147 := by decide +kernel
theorem sl_147 : sS_147.length = 185 := by decide +kernel
def sS_148 : List az_Shp := sS_147 ++ [(1, 60, [])]
theorem ln_147 : sS_147 ++ [(1, 60, [])] = sS_148 := rfl
theorem sl_148 : sS_148.length = 186 := by decide +kernel
def sS_149 : List az_Shp := sS_148.set 180 (0, 4, [some (some 181), some (some 182), some (some 183), some (some 184), some (some 185), some none, some none, none])
theorem lp_148 : az_pfr sS_148 19 180 4 4 185 = some sS_149 := by decide +kernel
theorem sl_149 : sS_149.length = 186 := by decide +kernel
def sS_150 : List az_Shp := sS_149 ++ [(1, 60, [])]
theorem ln_149 : sS_149 ++ [(1, 60, [])] = sS_150 := rfl
theorem sl_150 : sS_150.length = 187 := by decide +kernel
def sS_151 : List az_Shp := sS_150.set 180 (0, 4, [some (some 181), some (some 182), some (some 183), some (some 184), some (some 185), some (some 186), some none, none])
theorem lp_150 : az_pfr sS_150 19 180 4 5 186 = some sS_151 := by decide +kernel
theorem sl_151 : sS_151.length = 187 := by decide +kernel
def sS_152 : List az_Shp := sS_151 ++ [(1, 60, [])]
theorem ln_151 : sS_151 ++ [(1, 60, [])] = sS_152 := rfl
theorem sl_152 : sS_152.length = 188 := by decide +kernel
def sS_153 : List az_Shp := sS_152.set 180 (0, 4, [some (some 181), some (some 182), some (some 183), some (some 184), some (some 185), some (some 186), some (some 187), none])
theorem lp_152 : az_pfr sS_152 19 180 4 6 187 = some sS_153 := by decide +kernel
theorem sl_153 : sS_153.length = 188 := by decide +kernel
theorem lq_153_180_7 : az_pfi sS_153 19 180 4 7 = true := by decide +kernel
def sS_154 : List az_Shp := sS_153.set 152 (0, 6, [some (some 153), some (some 157), some (some 170), some (some 180), some none, some none, none])
theorem lp_153 : az_pfr sS_153 40 152 6 3 180 = some sS_154 := by decide +kernel
theorem sl_154 : sS_154.length = 188 := by decide +kernel
def sS_155 : List az_Shp := sS_154 ++ [(0, 0, az_df 0)]
theorem ln_154 : sS_154 ++ [(0, 0, az_df 0)] = sS_155 := rfl
theorem sl_155 : sS_155.length = 189 := by decide +kernel
theorem lc_155_0 {rest : List Value} (h : az_cat rest ≤ 8) : az_cc 0 sS_155 [.ref 188] rest := ⟨h, by decide, Or.inr (Or.inr (by decide +kernel))⟩
def sS_156 : List az_Shp := sS_155 ++ [(2, 6, [])]
theorem ln_155 : sS_155 ++ [(2, 6, [])] = sS_156 := rfl
theorem sl_156 : sS_156.length = 190 := by decide +kernel
def sS_157 : List az_Shp := sS_156.set 188 (0, 0, [some (some 189), some none, some none, some none, some none, none, none, none])
theorem lp_156 : az_pfr sS_156 0 188 0 0 189 = some sS_157 := by decide +kernel
theorem sl_157 : sS_157.length = 190 := by decide +kernel
def sS_158 : List az_Shp := sS_157 ++ [(1, 6, [])]
theorem ln_157 : sS_157 ++ [(1, 6, [])] = sS_158 := rfl
theorem sl_158 : sS_158.length = 191 := by decide +kernel
def sS_159 : List az_Shp := sS_158.set 188 (0, 0, [some (some 189), some (some 190), some none, some none, some none, none, none, none])
theorem lp_158 : az_pfr sS_158 0 188 0 1 190 = some sS_159 := by decide +kernel
theorem sl_159 : sS_159.length = 191 := by decide +kernel
def sS_160 : List az_Shp := sS_159 ++ [(1, 6, [])]
theorem ln_159 : sS_159 ++ [(1, 6, [])] = sS_160 := rfl
theorem sl_160 : sS_160.length = 192 := by decide +kernel
def sS_161 : List az_Shp := sS_160.set 188 (0, 0, [some (some 189), some (some 190), some (some 191), some none, some none, none, none, none])
theorem lp_160 : az_pfr sS_160 0 188 0 2 191 = some sS_161 := by decide +kernel
theorem sl_161 : sS_161.length = 192 := by decide +kernel
def sS_162 : List az_Shp := sS_161 ++ [(1, 6, [])]
theorem ln_161 : sS_161 ++ [(1, 6, [])] = sS_162 := rfl
theorem sl_162 : sS_162.length = 193 := by decide +kernel
def sS_163 : List az_Shp := sS_162.set 188 (0, 0, [some (some 189), some (some 190), some (some 191), some (some 192), some none, none, none, none])
theorem lp_162 : az_pfr sS_162 0 188 0 3 192 = some sS_163 := by decide +kernel
theorem sl_163 : sS_163.length = 193 := by decide +kernel
def sS_164 : List az_Shp := (sS_163 ++ [(4, 64, (List.range 64).map fun j => some (some (194 + j)))]) ++ List.replicate 64 (1, 32, [])
theorem ln_163 : (sS_163 ++ [(4, 64, (List.range 64).map fun j => some (some (194 + j)))]) ++ List.replicate 64 (1, 32, []) = sS_164 := rfl
theorem sl_164 : sS_164.length = 258 := by decide +kernel
def sS_165 : List az_Shp := sS_164.set 188 (0, 0, [some (some 189), some (some 190), some (some 191), some (some 192), some (some 193), none, none, none])
theorem lp_164 : az_pfr sS_164 0 188 0 4 193 = some sS_165 := by decide +kernel
theorem sl_165 : sS_165.length = 258 := by decide +kernel
theorem lq_165_188_5 : az_pfi sS_165 0 188 0 5 = true := by decide +kernel
theorem lq_165_188_6 : az_pfi sS_165 0 188 0 6 = true := by decide +kernel
theorem lq_165_188_7 : az_pfi sS_165 0 188 0 7 = true := by decide +kernel
def sS_166 : List az_Shp := sS_165.set 152 (0, 6, [some (some 153), some (some 157), some (some 170), some (some 180), some (some 188), some none, none])
theorem lp_165 : az_pfr sS_165 40 152 6 4 188 = some sS_166 := by decide +kernel
theorem sl_166 : sS_166.length = 258 := by decide +kernel
def sS_167 : List az_Shp := sS_166 ++ [(0, 5, az_df 5)]
theorem ln_166 : sS_166 ++ [(0, 5, az_df 5)] = sS_167 := rfl
theorem sl_167 : sS_167.length = 259 := by decide +kernel
theorem lc_167_33 {rest : List Value} (h : az_cat rest ≤ 8) : az_cc 33 sS_167 [.ref 258] rest := ⟨h, by decide, Or.inr (Or.inr (by decide +kernel))⟩
def sS_168 : List az_Shp := sS_167 ++ [(1, 40, [])]
theorem ln_167 : sS_167 ++ [(1, 40, [])] = sS_168 := rfl
theorem sl_168 : sS_168.length = 260 := by decide +kernel
def sS_169 : List az_Shp := sS_168.set 258 (0, 5, [some (some 259), some none, some none, some none, some none, none])
theorem lp_168 : az_pfr sS_168 33 258 5 0 259 = some sS_169 := by decide +kernel
theorem sl_169 : sS_169.length = 260 := by decide +kernel
def sS_170 : List az_Shp := sS_169 ++ [(1, 40, [])]
theorem ln_169 : sS_169 ++ [(1, 40, [])] = sS_170 := rfl
theorem sl_170 : sS_170.length = 261 := by decide +kernel
def sS_171 : List az_Shp := sS_170.set 258 (0, 5, [some (some 259), some (some 260), some none, some none, some none, none])
theorem lp_170 : az_pfr sS_170 33 258 5 1 260 = some sS_171 := by decide +kernel
theorem sl_171 : sS_171.length = 261 := by decide +kernel
def sS_172 : List az_Shp := sS_171 ++ [(1, 40, [])]
theorem ln_171 : sS_171 ++ [(1, 40, [])] = sS_172 := rfl
theorem sl_172 : sS_172.length = 262 := by decide +kernel
def sS_173 : List az_Shp := sS_172.set 258 (0, 5, [some (some 259), some (some 260), some (some 261), some none, some none, none])
theorem lp_172 : az_pfr sS_172 33 258 5 2 261 = some sS_173 := by decide +kernel
theorem sl_173 : sS_173.length = 262 := by decide +kernel
def sS_174 : List az_Shp := sS_173 ++ [(1, 40, [])]
theorem ln_173 : sS_173 ++ [(1, 40, [])] = sS_174 := rfl
theorem sl_174 : sS_174.length = 263 := by decide +kernel
def sS_175 : List az_Shp := sS_174.set 258 (0, 5, [some (some 259), some (some 260), some (some 261), some (some 262), some none, none])
theorem lp_174 : az_pfr sS_174 33 258 5 3 262 = some sS_175 := by decide +kernel
theorem sl_175 : sS_175.length = 263 := by decide +kernel
def sS_176 : List az_Shp := (sS_175 ++ [(4, 40, (List.range 40).map fun j => some (some (264 + j)))]) ++ List.replicate 40 (1, 60, [])
theorem ln_175 : (sS_175 ++ [(4, 40, (List.range 40).map fun j => some (some (264 + j)))]) ++ List.replicate 40 (1, 60, []) = sS_176 := rfl
theorem sl_176 : sS_176.length = 304 := by decide +kernel
def sS_177 : List az_Shp := sS_176.set 258 (0, 5, [some (some 259), some (some 260), some (some 261), some (some 262), some (some 263), none])
theorem lp_176 : az_pfr sS_176 33 258 5 4 263 = some sS_177 := by decide +kernel
theorem sl_177 : sS_177.length = 304 := by decide +kernel
theorem lq_177_258_5 : az_pfi sS_177 33 258 5 5 = true := by decide +kernel
def sS_178 : List az_Shp := sS_177.set 152 (0, 6, [some (some 153), some (some 157), some (some 170), some (some 180), some (some 188), some (some 258), none])
theorem lp_177 : az_pfr sS_177 40 152 6 5 258 = some sS_178 := by decide +kernel
theorem sl_178 : sS_178.length = 304 := by decide +kernel
theorem lq_178_152_6 : az_pfi sS_178 40 152 6 6 = true := by decide +kernel
theorem sS_all : sS_178 = az_S := by decide +kernel
theorem tn_0 : Int32.toNatClampNeg 0 = 0 := by decide
theorem tn_1 : Int32.toNatClampNeg 1 = 1 := by decide
theorem tn_2 : Int32.toNatClampNeg 2 = 2 := by decide
theorem tn_3 : Int32.toNatClampNeg 3 = 3 := by decide
theorem tn_4 : Int32.toNatClampNeg 4 = 4 := by decide
theorem tn_5 : Int32.toNatClampNeg 5 = 5 := by decide
theorem tn_6 : Int32.toNatClampNeg 6 = 6 := by decide
theorem tn_12 : Int32.toNatClampNeg 12 = 12 := by decide
theorem tn_24 : Int32.toNatClampNeg 24 = 24 := by decide
theorem tn_32 : Int32.toNatClampNeg 32 = 32 := by decide
theorem tn_36 : Int32.toNatClampNeg 36 = 36 := by decide
theorem tn_40 : Int32.toNatClampNeg 40 = 40 := by decide
theorem tn_50 : Int32.toNatClampNeg 50 = 50 := by decide
theorem tn_60 : Int32.toNatClampNeg 60 = 60 := by decide
theorem tn_64 : Int32.toNatClampNeg 64 = 64 := by decide
theorem aN_0 : az_N 0 = 8 := by decide +kernel
theorem aN_1 : az_N 1 = 10 := by decide +kernel
theorem aN_2 : az_N 2 = 9 := by decide +kernel
theorem aN_3 : az_N 3 = 3 := by decide +kernel
theorem aN_4 : az_N 4 = 8 := by decide +kernel
theorem aN_5 : az_N 5 = 6 := by decide +kernel
theorem aN_6 : az_N 6 = 7 := by decide +kernel
def zI : Nat → Nat → Int32 := fun _ _ => 0
def zJ : Nat → Nat → Int64 := fun _ _ => 0
theorem clr_z {n : Nat} : az_clr zI n = zI := by
  funext b j
  unfold az_clr zI
  split <;> rfl
theorem clrJ_z {n : Nat} : az_clrJ zJ n = zJ := by
  funext b j
  unfold az_clrJ zJ
  split <;> rfl
theorem clr_up {I : Nat → Nat → Int32} {a k n : Nat} {x : Int32} (h : a < n) : az_clr (az_up I a k x) n = az_up (az_clr I n) a k x := by
  funext b j
  rw [az_upe]
  unfold az_clr
  by_cases h1 : b = a
  · subst h1
    rw [if_pos rfl, if_neg (by omega), az_upe, if_pos rfl]
    simp only [upde]
    split
    · rfl
    · rw [if_neg (by omega)]
  · rw [if_neg h1, az_up_ne h1]
theorem up_z {a k : Nat} : az_up zI a k 0 = zI := by
  funext b
  rw [az_upe]
  split
  · funext j
    rw [upde]
    split <;> rfl
  · rfl
theorem up_0 {I : Nat → Nat → Int32} {a k : Nat} (h : I a k = 0) : az_up I a k 0 = I := by
  funext b
  rw [az_upe]
  split
  · rename_i h1
    rw [h1]
    funext j
    rw [upde]
    split
    · rename_i h2; rw [h2, h]
    · rfl
  · rfl
theorem zI_0 {a k : Nat} : zI a k = 0 := rfl
def lnd (v : Int32) (k : Nat) : Int32 := if k < 3 then v else 0
theorem lnd_up {I : Nat → Nat → Int32} {a : Nat} {v : Int32} (h : I a = fun _ => 0) : az_up (az_up (az_up I a 0 v) a 1 v) a 2 v a = lnd v := by
  funext j
  simp only [az_upe, if_true, h]
  unfold lnd
  match j with
  | 0 => rfl
  | 1 => rfl
  | 2 => rfl
  | j + 3 => simp [upde]; intro h; omega
theorem G0_z : az_G0 = (sS_0, zI, zJ, 0, 0) := rfl
