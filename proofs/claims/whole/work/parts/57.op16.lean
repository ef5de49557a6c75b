/-! the call pass -/
section
variable {xs : az_X} {i mo nc nl ng np t c z : Nat} {I : Nat → Nat → Int32} {J : Nat → Nat → Int64} {K : az_O → Prop} {o5 o6 : Option Value}
set_option maxRecDepth 4000 in
theorem op16 (ht : t < 600) (hs : az_sc xs i) (H : az_Sim I mo nc nl ng np t) (hg : az_go xs i t c z K) : az_W xs 30 171 1345 (az_LL i o5 o6) [] (az_S, I, J, c, z) K := by
  obtain ⟨h1, h2, h3, h4, h5⟩ := hs
  have H0 := H
  obtain ⟨⟨e153, e154, e155, e156, e157, e184, e185, e186, e187, e188, e189, e158, e159, e160, e161, e162, e163, e164, e165, e166, e167, e168, e169, e170, e172, e173, e174, e177, e178, e179, e180⟩, ⟨⟨n1, n2, n3⟩, ⟨n4, n5, n6⟩, ⟨n7, n8, n9⟩, ⟨n10, n11, n12⟩, ⟨n13, n14, n15⟩⟩, q3, q4, q5, q6, q7, q8, q9, q10, q11, q12, q13⟩ := H
  by_cases hm : mo < 240
  · have hm1 : (nI mo < 240) = True := by rw [show (240 : Int32) = nI 240 from rfl, bz_lt (by omega) (by omega)]; simp [hm]
    have hm2 : (nI mo = 240) = False := by rw [show (240 : Int32) = nI 240 from rfl, bz_eq (by omega) (by omega)]; simp; omega
    have hE := vlt_eb q10
    have hcd : ∀ cd, cd < nc → az_in (I 19 cd) 4 = true ∧ az_in (I 20 cd) 3 = true ∧ 0 ≤ (I 22 cd).toInt := fun cd h => by
      obtain ⟨⟨a1, a2⟩, a3, a4, a5⟩ := q9.1 cd h
      exact ⟨a1, a2, by have := Int32.le_iff_toInt_le.mp a4.1; exact this⟩
    have hbd : ∀ j, j < nl → 0 ≤ (I 31 j).toInt ∧ (I 31 j).toInt ≤ ((1000 * (t + 1) : Nat) : Int) := fun j hj => by have := (q10 j hj).2.2.1; omega
    simp (maxDischargeDepth := 7) only [s171_1345, s171_1346, s171_1347, s171_1350, s171_1352, s171_1353, s171_1356, s171_1358, s171_1359, s171_1362, s171_1364, s171_1367, s171_1368, s171_1369, s171_1371, s171_1374, s171_1375, s171_1376, s171_1377, s171_1379, s171_1380, s171_1381, s171_1384, s171_1385, s171_1386, cc160, cc127, cc88, C160, s160_0, s160_1, s160_2, s160_3, s160_6, s160_7, s160_8, s160_11, s160_12, s160_13, s160_14, s160_15, cc57, th160_3, r88, r89, h1, h2, h3, h4, h5, ite_not, az_i0, C57, th57, s57_0, s57_1, s57_4, s57_7, s57_10, s57_11, s57_14, s57_15, s57_18, s57_19, s57_20, s57_23, s57_24, s57_25, s57_28, s57_29, s57_32, s57_35, s57_36, s57_39, s57_40, s57_42, s57_43, s57_46, s57_49, s57_52, s57_53, s57_54, s57_57, s57_58, s57_59, s57_62, s57_65, s57_68, s57_69, s57_72, g0_6, cc73, p0_6, g0_2, g18_7, A26, cc143, g18_9, cc80, cc82, c143 (a := 26) (n := 12) (v := 0) L26 (fun i => A26) (by omega), r90, r91, r92, r93 (n := nc) (by omega), r94 (n := nl) (by omega), r95 (n := ng) (by omega), r96 (n := np) (by omega), c69_3, c69_4, c69 (N := nc) (by omega), c69 (N := nl) (by omega), c69 (N := ng) (by omega), c69 (N := np) (by omega), c70, c73, c20, A191, az_in01, az_upje, az_lc0, az_lc, az_c0, az_upe, upde, e153, e154, e155, e156, e157, e184, e185, e186, e187, e188, e189, e158, e159, e160, e161, e162, e163, e164, e165, e166, e167, e168, e169, e170, e172, e173, e174, e177, e178, e179, e180, n1, n2, n4, n5, n7, n8, n10, n11, n13, n14, az_ex, az_bk0, az_bk1, az_bkx, az_cat0, az_cati, az_catr, az_catl, az_vi, az_vr, az_bo0, az_bo1, az_boi, true_and, and_true, if_true, if_false, ne_eq, not_true_eq_false, not_false_eq_true, List.set_cons_zero, List.set_cons_succ, Nat.reduceAdd, Nat.reduceLeDiff, Nat.reduceEqDiff, ↓reduceIte, reduceCtorEq, Nat.reduceSub, Nat.reduceMul, Int32.reduceLT, Int32.reduceLE, Int32.reduceAdd, Int32.reduceMul, Int32.reduceSub, az_ne10, az_ne20, az_ne30, Nat.zero_le, az_q0_1, az_q0_2, az_q0_3, az_q0_4, az_q0_5, az_q0_6, az_q0_7, az_q0_8, az_q1_0, az_q1_2, az_q1_3, az_q1_4, az_q1_5, az_q1_6, az_q1_7, az_q1_8, az_q2_0, az_q2_1, az_q2_3, az_q2_4, az_q2_5, az_q2_6, az_q2_7, az_q2_8, az_q3_0, az_q3_1, az_q3_2, az_q3_4, az_q3_5, az_q3_6, az_q3_7, az_q3_8, az_q4_0, az_q4_1, az_q4_2, az_q4_3, az_q4_5, az_q4_6, az_q4_7, az_q4_8, az_q5_0, az_q5_1, az_q5_2, az_q5_3, az_q5_4, az_q5_6, az_q5_7, az_q5_8, az_q6_0, az_q6_1, az_q6_2, az_q6_3, az_q6_4, az_q6_5, az_q6_7, az_q6_8, az_q7_0, az_q7_1, az_q7_2, az_q7_3, az_q7_4, az_q7_5, az_q7_6, az_q7_8, az_q8_0, az_q8_1, az_q8_2, az_q8_3, az_q8_4, az_q8_5, az_q8_6, az_q8_7, az_z10, az_z60, az_z100, az_z1000, az_z1001, az_z10000, hm1, hm2, nI_1]
    obtain ⟨A, hA⟩ : ∃ A, A = az_set (az_up I 0 6 (nI (mo + 1))) 26 (fun j => if j < 12 then 0 else I 26 j) := ⟨_, rfl⟩
    rw [← hA]
    have a18 : A 18 9 = nI nc := by simp only [hA, az_upe, az_sete, Nat.reduceEqDiff, ↓reduceIte]; exact n4
    have a28 : A 28 7 = nI nl := by simp only [hA, az_upe, az_sete, Nat.reduceEqDiff, ↓reduceIte]; exact n7
    have a0 : A 0 6 = nI (mo + 1) := by simp only [hA, az_upe, az_sete, Nat.reduceEqDiff, ↓reduceIte]; exact upd_at
    have aE : ∀ a, a ≠ 0 → a ≠ 26 → A a = I a := fun a h1 h2 => by rw [hA, az_sete, if_neg h2, az_up_ne h1]
    have a26 : A 26 = fun j => if j < 12 then 0 else I 26 j := by simp only [hA, az_upe, az_sete, Nat.reduceEqDiff, ↓reduceIte]
    have hR0 : rC A A (I 31, I 190, I 10, I 11) := ⟨aE 31 (by decide) (by decide), fun l hl c hc => by rw [aE (15 + l) (by omega) (by omega)]; exact (q4 l hl c hc).symm, aE 10 (by decide) (by decide), aE 11 (by decide) (by decide), fun a _ _ _ _ _ _ _ _ => rfl⟩
    have hcdA : ∀ cd, cd < nc → az_in (A 19 cd) 4 = true ∧ az_in (A 20 cd) 3 = true ∧ 0 ≤ (A 22 cd).toInt := by
      rw [aE 19 (by decide) (by decide), aE 20 (by decide) (by decide), aE 22 (by decide) (by decide)]
      exact hcd
    refine c57l (A := A) (nc := nc) (nl := nl) (now := nI (mo + 1)) hR0 n6 n9 ht a18 a28 a0 (by rw [aE 33 (by decide) (by decide)]; exact hE) hcdA hbd ?_
    intro I1 hR1
    have i0 : I1 0 6 = nI (mo + 1) := by rw [rC_r hR1 (by decide)]; exact a0
    have i1 : ∀ a, a ∉ [0, 26, 31, 15, 16, 17, 10, 11, 34, 35] → I1 a = I a := fun a h => by
      simp only [List.mem_cons, List.not_mem_nil, or_false, not_or] at h
      obtain ⟨h0, h26, h31, h15, h16, h17, h10, h11, h34, h35⟩ := h
      rw [rC_r hR1 ⟨⟨h31, h15, h16, h17⟩, h10, h11, h34, h35⟩, aE a h0 h26]
    have i152 : I1 152 = I 152 := i1 152 (by decide)
    simp (maxDischargeDepth := 7) only [s171_1345, s171_1346, s171_1347, s171_1350, s171_1352, s171_1353, s171_1356, s171_1358, s171_1359, s171_1362, s171_1364, s171_1367, s171_1368, s171_1369, s171_1371, s171_1374, s171_1375, s171_1376, s171_1377, s171_1379, s171_1380, s171_1381, s171_1384, s171_1385, s171_1386, cc160, cc127, cc88, C160, s160_0, s160_1, s160_2, s160_3, s160_6, s160_7, s160_8, s160_11, s160_12, s160_13, s160_14, s160_15, cc57, th160_3, r88, r89, h1, h2, h3, h4, h5, ite_not, az_i0, C57, th57, s57_0, s57_1, s57_4, s57_7, s57_10, s57_11, s57_14, s57_15, s57_18, s57_19, s57_20, s57_23, s57_24, s57_25, s57_28, s57_29, s57_32, s57_35, s57_36, s57_39, s57_40, s57_42, s57_43, s57_46, s57_49, s57_52, s57_53, s57_54, s57_57, s57_58, s57_59, s57_62, s57_65, s57_68, s57_69, s57_72, g0_6, cc73, p0_6, g0_2, g18_7, A26, cc143, g18_9, cc80, cc82, C127, th127, s127_0, s127_1, s127_2, s127_5, s127_8, s127_11, s127_12, s127_15, s127_16, s127_19, s127_22, s127_23, s127_24, s127_25, s127_26, s127_29, s127_30, s127_31, s127_34, s127_35, s127_37, s127_38, s127_41, s127_44, s127_45, s127_48, s127_49, s127_50, s127_51, s127_52, s127_53, s127_54, s127_55, s127_58, s127_61, s127_62, s127_65, s127_66, s127_67, s127_68, s127_71, s127_72, s127_75, s127_76, s127_77, s127_78, s127_81, s127_84, s127_85, s127_86, s127_89, s127_92, s127_95, s127_96, s127_99, s127_100, s127_103, s127_104, s127_105, s127_106, s127_108, s127_111, s127_112, s127_113, s127_116, s127_119, s127_122, s127_123, s127_126, g152_1, cc89, p152_1, g152_7, g152_15, A165, g152_17, g152_18, A167, g152_22, A171, cc125, g152_14, A164, cc126, r90, r91, r92, r93 (n := nc) (by omega), r94 (n := nl) (by omega), r95 (n := ng) (by omega), r96 (n := np) (by omega), c69_3, c69_4, c69 (N := nc) (by omega), c69 (N := nl) (by omega), c69 (N := ng) (by omega), c69 (N := np) (by omega), c70, c73, c20, A191, az_in01, az_upje, az_lc0, az_lc, az_c0, az_upe, upde, e153, e154, e155, e156, e157, e184, e185, e186, e187, e188, e189, e158, e159, e160, e161, e162, e163, e164, e165, e166, e167, e168, e169, e170, e172, e173, e174, e177, e178, e179, e180, n1, n2, n4, n5, n7, n8, n10, n11, n13, n14, az_ex, az_bk0, az_bk1, az_bkx, az_cat0, az_cati, az_catr, az_catl, az_vi, az_vr, az_bo0, az_bo1, az_boi, true_and, and_true, if_true, if_false, ne_eq, not_true_eq_false, not_false_eq_true, List.set_cons_zero, List.set_cons_succ, Nat.reduceAdd, Nat.reduceLeDiff, Nat.reduceEqDiff, ↓reduceIte, reduceCtorEq, Nat.reduceSub, Nat.reduceMul, Int32.reduceLT, Int32.reduceLE, Int32.reduceAdd, Int32.reduceMul, Int32.reduceSub, az_ne10, az_ne20, az_ne30, Nat.zero_le, az_q0_1, az_q0_2, az_q0_3, az_q0_4, az_q0_5, az_q0_6, az_q0_7, az_q0_8, az_q1_0, az_q1_2, az_q1_3, az_q1_4, az_q1_5, az_q1_6, az_q1_7, az_q1_8, az_q2_0, az_q2_1, az_q2_3, az_q2_4, az_q2_5, az_q2_6, az_q2_7, az_q2_8, az_q3_0, az_q3_1, az_q3_2, az_q3_4, az_q3_5, az_q3_6, az_q3_7, az_q3_8, az_q4_0, az_q4_1, az_q4_2, az_q4_3, az_q4_5, az_q4_6, az_q4_7, az_q4_8, az_q5_0, az_q5_1, az_q5_2, az_q5_3, az_q5_4, az_q5_6, az_q5_7, az_q5_8, az_q6_0, az_q6_1, az_q6_2, az_q6_3, az_q6_4, az_q6_5, az_q6_7, az_q6_8, az_q7_0, az_q7_1, az_q7_2, az_q7_3, az_q7_4, az_q7_5, az_q7_6, az_q7_8, az_q8_0, az_q8_1, az_q8_2, az_q8_3, az_q8_4, az_q8_5, az_q8_6, az_q8_7, az_z10, az_z60, az_z100, az_z1000, az_z1001, az_z10000, hm1, hm2, nI_1, i0, i152]
    obtain ⟨I2, hI2⟩ : ∃ q, q = az_up (az_up I1 152 0 0) 152 1 (nI (mo + 1)) := ⟨_, rfl⟩
    rw [← hI2]
    have j1 : ∀ a, a ≠ 152 → I2 a = I1 a := fun a h => by rw [hI2, az_up_ne h, az_up_ne h]
    have j152 : ∀ k, I2 152 k = if k = 1 then nI (mo + 1) else if k = 0 then 0 else I 152 k := fun k => by rw [hI2]; simp only [az_upe, ↓reduceIte, upde, i152]
    have hbs := fd_inv (n := nc) (h := pCd A (nI (mo + 1)) nl) (Inv := fun _ s => ∀ j, j < nl → 0 ≤ (s.1 j).toInt ∧ (s.1 j).toInt ≤ ((1000 * (t + 1) : Nat) : Int)) (fun j s hj hi => pFe_bd (hcdA j hj).2.2 (pEs_bd (by omega) hi)) nc 0 (I 31, I 190, I 10, I 11) (Nat.zero_add _) hbd
    have hR2 : rM I2 I2 (I 31, I 190, I 10, I 11) (I 26) := ⟨by rw [j1 169 (by decide), i1 169 (by decide)]; exact e169, fun q _ => by rw [j1 190 (by decide), i1 190 (by decide)], by rw [j1 186 (by decide), i1 186 (by decide)]; exact e186, by rw [j1 187 (by decide), i1 187 (by decide)]; exact e187, by rw [j1 165 (by decide), i1 165 (by decide)]; exact e165, fun a _ _ _ _ _ => rfl⟩
    have hM : mC I2 A (nI (mo + 1)) nl := by
      refine ⟨⟨?_, ?_, ?_, ?_⟩, ⟨?_, ?_, ?_, ?_⟩, ⟨?_, ?_⟩, ?_⟩
      · rw [j1 167 (by decide), i1 167 (by decide), e167]; exact (aE 29 (by decide) (by decide)).symm
      · rw [j1 168 (by decide), i1 168 (by decide), e168]; exact (aE 30 (by decide) (by decide)).symm
      · rw [j1 162 (by decide), i1 162 (by decide), e162]; exact (aE 23 (by decide) (by decide)).symm
      · rw [j1 158 (by decide), i1 158 (by decide), e158]; exact (aE 19 (by decide) (by decide)).symm
      · rw [j1 159 (by decide), i1 159 (by decide), e159]; exact (aE 20 (by decide) (by decide)).symm
      · rw [j1 164 (by decide), i1 164 (by decide), e164]; exact (aE 25 (by decide) (by decide)).symm
      · rw [j1 161 (by decide), i1 161 (by decide), e161]; exact (aE 22 (by decide) (by decide)).symm
      · rw [j1 171 (by decide), i1 171 (by decide), aE 33 (by decide) (by decide)]; exact q3
      · rw [j152]; simp [n8]
      · rw [j152]; simp
      · intro k hk
        rw [aE 33 (by decide) (by decide)]
        rcases hE k hk with h | ⟨e, he, h⟩
        · rw [h, az_nv1]
          constructor
          · intro h2; exact absurd h2.symm (by rw [bz_n1 (by omega)]; exact id)
          · intro h2; exact absurd h2.symm (by rw [bz_n2 (by omega)]; exact id)
        · rw [h, az_nvn he]
    refine m127l (nc := nc) (A := A) (t := t) hR2 hM n6 n9 ht (by rw [j152]; simp [n5]) (fun k hk => by rw [aE 30 (by decide) (by decide)]; exact (q10 k hk).2.1) hcdA hbd ?_
    intro I3 o2 hR3
    have k152 : ∀ k, I3 152 k = if k = 1 then nI (mo + 1) else if k = 0 then 0 else I 152 k := fun k => by rw [rM_r hR3 (by decide)]; exact j152 k
    have hfr : ∀ a, a ∉ [169, 190, 186, 187, 165, 152, 0, 26, 31, 15, 16, 17, 10, 11, 34, 35] → I3 a = I a := fun a h => by
      simp only [List.mem_cons, List.not_mem_nil, or_false, not_or] at h
      rw [rM_r hR3 (by omega), j1 a (by omega), i1 a (by simp; omega)]
    simp (maxDischargeDepth := 7) only [s171_1345, s171_1346, s171_1347, s171_1350, s171_1352, s171_1353, s171_1356, s171_1358, s171_1359, s171_1362, s171_1364, s171_1367, s171_1368, s171_1369, s171_1371, s171_1374, s171_1375, s171_1376, s171_1377, s171_1379, s171_1380, s171_1381, s171_1384, s171_1385, s171_1386, cc160, cc127, cc88, C160, s160_0, s160_1, s160_2, s160_3, s160_6, s160_7, s160_8, s160_11, s160_12, s160_13, s160_14, s160_15, cc57, th160_3, r88, r89, h1, h2, h3, h4, h5, ite_not, az_i0, C57, th57, s57_0, s57_1, s57_4, s57_7, s57_10, s57_11, s57_14, s57_15, s57_18, s57_19, s57_20, s57_23, s57_24, s57_25, s57_28, s57_29, s57_32, s57_35, s57_36, s57_39, s57_40, s57_42, s57_43, s57_46, s57_49, s57_52, s57_53, s57_54, s57_57, s57_58, s57_59, s57_62, s57_65, s57_68, s57_69, s57_72, g0_6, cc73, p0_6, g0_2, g18_7, A26, cc143, g18_9, cc80, cc82, C127, th127, s127_0, s127_1, s127_2, s127_5, s127_8, s127_11, s127_12, s127_15, s127_16, s127_19, s127_22, s127_23, s127_24, s127_25, s127_26, s127_29, s127_30, s127_31, s127_34, s127_35, s127_37, s127_38, s127_41, s127_44, s127_45, s127_48, s127_49, s127_50, s127_51, s127_52, s127_53, s127_54, s127_55, s127_58, s127_61, s127_62, s127_65, s127_66, s127_67, s127_68, s127_71, s127_72, s127_75, s127_76, s127_77, s127_78, s127_81, s127_84, s127_85, s127_86, s127_89, s127_92, s127_95, s127_96, s127_99, s127_100, s127_103, s127_104, s127_105, s127_106, s127_108, s127_111, s127_112, s127_113, s127_116, s127_119, s127_122, s127_123, s127_126, g152_1, cc89, p152_1, g152_7, g152_15, A165, g152_17, g152_18, A167, g152_22, A171, cc125, g152_14, A164, cc126, r90, r91, r92, r93 (n := nc) (by omega), r94 (n := nl) (by omega), r95 (n := ng) (by omega), r96 (n := np) (by omega), c69_3, c69_4, c69 (N := nc) (by omega), c69 (N := nl) (by omega), c69 (N := ng) (by omega), c69 (N := np) (by omega), c70, c73, c20, A191, az_in01, az_upje, az_lc0, az_lc, az_c0, az_upe, upde, e153, e154, e155, e156, e157, e184, e185, e186, e187, e188, e189, e158, e159, e160, e161, e162, e163, e164, e165, e166, e167, e168, e169, e170, e172, e173, e174, e177, e178, e179, e180, n1, n2, n4, n5, n7, n8, n10, n11, n13, n14, az_ex, az_bk0, az_bk1, az_bkx, az_cat0, az_cati, az_catr, az_catl, az_vi, az_vr, az_bo0, az_bo1, az_boi, true_and, and_true, if_true, if_false, ne_eq, not_true_eq_false, not_false_eq_true, List.set_cons_zero, List.set_cons_succ, Nat.reduceAdd, Nat.reduceLeDiff, Nat.reduceEqDiff, ↓reduceIte, reduceCtorEq, Nat.reduceSub, Nat.reduceMul, Int32.reduceLT, Int32.reduceLE, Int32.reduceAdd, Int32.reduceMul, Int32.reduceSub, az_ne10, az_ne20, az_ne30, Nat.zero_le, az_q0_1, az_q0_2, az_q0_3, az_q0_4, az_q0_5, az_q0_6, az_q0_7, az_q0_8, az_q1_0, az_q1_2, az_q1_3, az_q1_4, az_q1_5, az_q1_6, az_q1_7, az_q1_8, az_q2_0, az_q2_1, az_q2_3, az_q2_4, az_q2_5, az_q2_6, az_q2_7, az_q2_8, az_q3_0, az_q3_1, az_q3_2, az_q3_4, az_q3_5, az_q3_6, az_q3_7, az_q3_8, az_q4_0, az_q4_1, az_q4_2, az_q4_3, az_q4_5, az_q4_6, az_q4_7, az_q4_8, az_q5_0, az_q5_1, az_q5_2, az_q5_3, az_q5_4, az_q5_6, az_q5_7, az_q5_8, az_q6_0, az_q6_1, az_q6_2, az_q6_3, az_q6_4, az_q6_5, az_q6_7, az_q6_8, az_q7_0, az_q7_1, az_q7_2, az_q7_3, az_q7_4, az_q7_5, az_q7_6, az_q7_8, az_q8_0, az_q8_1, az_q8_2, az_q8_3, az_q8_4, az_q8_5, az_q8_6, az_q8_7, az_z10, az_z60, az_z100, az_z1000, az_z1001, az_z10000, nI_1, k152]
    have d31 : I3 31 = I1 31 := by rw [rM_r hR3 (by decide), j1 31 (by decide)]
    have d10 : I3 10 = I1 10 := by rw [rM_r hR3 (by decide), j1 10 (by decide)]
    have d11 : I3 11 = I1 11 := by rw [rM_r hR3 (by decide), j1 11 (by decide)]
    have d26 : I3 26 = fun j => if j < 12 then 0 else I 26 j := by rw [rM_r hR3 (by decide), j1 26 (by decide), rC_r hR1 (by decide), a26]
    have d26' : ∀ j, I3 26 j = 0 ∨ (j < nc ∧ 12 ≤ j) := fun j => by
      rw [d26]
      dsimp only
      split
      · exact Or.inl rfl
      · exact Or.inl (q9.2 j (by omega)).2.1
    refine hg _ _ _ _ _ _ (mo + 1) nc nl ng np (az_Sim_t (pass_sim H0 (fun a h1 h2 => hfr a ?_) ?_ ?_ ?_ ?_ ?_ ?_ ?_ ?_ ?_)) (by omega) (by omega)
    · have h3 : ∀ a, a ∈ az_dc → a ≠ 0 ∧ a ≠ 152 ∧ a ≠ 34 ∧ a ≠ 35 := by decide +kernel
      have h4 := h3 a h1
      simp only [List.mem_cons, List.not_mem_nil, or_false, not_or] at h2 ⊢
      omega
    · have c0 : I3 0 6 = nI (mo + 1) := by rw [rM_r hR3 (by decide), j1 0 (by decide)]; exact i0
      refine ⟨⟨c0, by rw [k152]; simp, by omega⟩, ⟨by rw [hfr 18 (by decide)]; exact n4, by rw [k152]; simp [n5], n6⟩, ⟨by rw [hfr 28 (by decide)]; exact n7, by rw [k152]; simp [n8], n9⟩, ⟨by rw [hfr 36 (by decide)]; exact n10, by rw [k152]; simp [n11], n12⟩, ⟨by rw [hfr 106 (by decide)]; exact n13, by rw [k152]; simp [n14], n15⟩⟩
    · rw [d10, hR1.2.2.1]; exact hR3.2.2.1
    · rw [d11, hR1.2.2.2.1]; exact hR3.2.2.2.1
    · rw [hR3.2.2.2.2.1, fd_fill, d26]
      funext k
      by_cases h1 : k < nc
      · rw [if_pos (by omega), if_pos (by omega)]
      · rw [if_neg (by omega)]
        split
        · exact (q9.2 k (by omega)).2.1
        · rfl
    · rw [d31, hR1.1]; exact hR3.1
    · intro l hl c hc
      have h1 := hR1.2.1 l hl c hc
      have h2 := hR3.2.1 (4 * l + c) (by omega)
      rw [rM_r hR3 (a := 15 + l) (by omega), j1 (15 + l) (by omega), h1]
      exact h2
    · intro q hq
      rcases d26' q with h | h
      · rw [h]; decide
      · omega
    · intro q hq
      rcases d26' q with h | h
      · exact h
      · omega
    · intro q hq
      rw [d31, hR1.1]
      have := hbs q hq
      exact ⟨this.1, by have := this.2; omega⟩
  · have hm0 : mo = 240 := by omega
    have hm1 : (nI mo < 240) = False := by rw [hm0]; decide
    have hm2 : (nI mo = 240) = True := by rw [hm0]; decide
    simp (maxDischargeDepth := 7) only [s171_1345, s171_1346, s171_1347, s171_1350, s171_1352, s171_1353, s171_1356, s171_1358, s171_1359, s171_1362, s171_1364, s171_1367, s171_1368, s171_1369, s171_1371, s171_1374, s171_1375, s171_1376, s171_1377, s171_1379, s171_1380, s171_1381, s171_1384, s171_1385, s171_1386, cc160, cc127, cc88, C160, s160_0, s160_1, s160_2, s160_3, s160_6, s160_7, s160_8, s160_11, s160_12, s160_13, s160_14, s160_15, cc57, th160_3, r88, r89, h1, h2, h3, h4, h5, ite_not, az_i0, C57, th57, s57_0, s57_1, s57_4, s57_7, s57_10, s57_11, s57_14, s57_15, s57_18, s57_19, s57_20, s57_23, s57_24, s57_25, s57_28, s57_29, s57_32, s57_35, s57_36, s57_39, s57_40, s57_42, s57_43, s57_46, s57_49, s57_52, s57_53, s57_54, s57_57, s57_58, s57_59, s57_62, s57_65, s57_68, s57_69, s57_72, g0_6, cc73, p0_6, g0_2, g18_7, A26, cc143, g18_9, cc80, cc82, C127, th127, s127_0, s127_1, s127_2, s127_5, s127_8, s127_11, s127_12, s127_15, s127_16, s127_19, s127_22, s127_23, s127_24, s127_25, s127_26, s127_29, s127_30, s127_31, s127_34, s127_35, s127_37, s127_38, s127_41, s127_44, s127_45, s127_48, s127_49, s127_50, s127_51, s127_52, s127_53, s127_54, s127_55, s127_58, s127_61, s127_62, s127_65, s127_66, s127_67, s127_68, s127_71, s127_72, s127_75, s127_76, s127_77, s127_78, s127_81, s127_84, s127_85, s127_86, s127_89, s127_92, s127_95, s127_96, s127_99, s127_100, s127_103, s127_104, s127_105, s127_106, s127_108, s127_111, s127_112, s127_113, s127_116, s127_119, s127_122, s127_123, s127_126, g152_1, cc89, p152_1, g152_7, g152_15, A165, g152_17, g152_18, A167, g152_22, A171, cc125, g152_14, A164, cc126, r90, r91, r92, r93 (n := nc) (by omega), r94 (n := nl) (by omega), r95 (n := ng) (by omega), r96 (n := np) (by omega), c69_3, c69_4, c69 (N := nc) (by omega), c69 (N := nl) (by omega), c69 (N := ng) (by omega), c69 (N := np) (by omega), c70, c73, c20, A191, az_in01, az_upje, az_lc0, az_lc, az_c0, az_upe, upde, e153, e154, e155, e156, e157, e184, e185, e186, e187, e188, e189, e158, e159, e160, e161, e162, e163, e164, e165, e166, e167, e168, e169, e170, e172, e173, e174, e177, e178, e179, e180, n1, n2, n4, n5, n7, n8, n10, n11, n13, n14, az_ex, az_bk0, az_bk1, az_bkx, az_cat0, az_cati, az_catr, az_catl, az_vi, az_vr, az_bo0, az_bo1, az_boi, true_and, and_true, if_true, if_false, ne_eq, not_true_eq_false, not_false_eq_true, List.set_cons_zero, List.set_cons_succ, Nat.reduceAdd, Nat.reduceLeDiff, Nat.reduceEqDiff, ↓reduceIte, reduceCtorEq, Nat.reduceSub, Nat.reduceMul, Int32.reduceLT, Int32.reduceLE, Int32.reduceAdd, Int32.reduceMul, Int32.reduceSub, az_ne10, az_ne20, az_ne30, Nat.zero_le, az_q0_1, az_q0_2, az_q0_3, az_q0_4, az_q0_5, az_q0_6, az_q0_7, az_q0_8, az_q1_0, az_q1_2, az_q1_3, az_q1_4, az_q1_5, az_q1_6, az_q1_7, az_q1_8, az_q2_0, az_q2_1, az_q2_3, az_q2_4, az_q2_5, az_q2_6, az_q2_7, az_q2_8, az_q3_0, az_q3_1, az_q3_2, az_q3_4, az_q3_5, az_q3_6, az_q3_7, az_q3_8, az_q4_0, az_q4_1, az_q4_2, az_q4_3, az_q4_5, az_q4_6, az_q4_7, az_q4_8, az_q5_0, az_q5_1, az_q5_2, az_q5_3, az_q5_4, az_q5_6, az_q5_7, az_q5_8, az_q6_0, az_q6_1, az_q6_2, az_q6_3, az_q6_4, az_q6_5, az_q6_7, az_q6_8, az_q7_0, az_q7_1, az_q7_2, az_q7_3, az_q7_4, az_q7_5, az_q7_6, az_q7_8, az_q8_0, az_q8_1, az_q8_2, az_q8_3, az_q8_4, az_q8_5, az_q8_6, az_q8_7, az_z10, az_z60, az_z100, az_z1000, az_z1001, az_z10000, hm1, hm2]
    exact hg _ _ _ _ _ _ mo nc nl ng np (az_Sim_t (az_Sim_th H0)) (by omega) (by omega)
end
