/-! a month comes: the reference -/
def rM (I I' : Nat → Nat → Int32) (s : (Nat → Int32) × (Nat → Int32) × (Nat → Int32) × (Nat → Int32)) (f : Nat → Int32) : Prop := I' 169 = s.1 ∧ (∀ q, q < 12 → I' 190 q = s.2.1 q) ∧ I' 186 = s.2.2.1 ∧ I' 187 = s.2.2.2 ∧ I' 165 = f ∧ ∀ a, a ≠ 169 → a ≠ 190 → a ≠ 186 → a ≠ 187 → a ≠ 165 → I' a = I a
theorem rM_r {I I' : Nat → Nat → Int32} {s : (Nat → Int32) × (Nat → Int32) × (Nat → Int32) × (Nat → Int32)} {f : Nat → Int32} (h : rM I I' s f) {a : Nat} (ha : (a ≠ 169 ∧ a ≠ 190) ∧ a ≠ 186 ∧ a ≠ 187 ∧ a ≠ 165) : I' a = I a := h.2.2.2.2.2 a ha.1.1 ha.1.2 ha.2.1 ha.2.2.1 ha.2.2.2
/-- what does not change of the reference's, said by the class's -/
def mC (I A : Nat → Nat → Int32) (now : Int32) (nl : Nat) : Prop := (I 167 = A 29 ∧ I 168 = A 30 ∧ I 162 = A 23 ∧ I 158 = A 19) ∧ (I 159 = A 20 ∧ I 164 = A 25 ∧ I 161 = A 22 ∧ I 171 = fun j => az_nv (A 33 j)) ∧ (I 152 17 = nI nl ∧ I 152 1 = now) ∧ ∀ k, k < nl → (az_nv (A 33 k) = now ↔ A 33 k = now)
theorem bz_or1 {x : Int32} (h : az_in x 4 = true) : ((x ≤ 1) = True ∧ (x = 0 ∨ x = 1)) ∨ ((x ≤ 1) = False ∧ ¬ (x = 0 ∨ x = 1)) := by
  obtain ⟨h1, h2⟩ := az_in_k h
  generalize x.toNatClampNeg = m at *
  subst h2
  have : m = 0 ∨ m = 1 ∨ m = 2 ∨ m = 3 := by omega
  rcases this with rfl | rfl | rfl | rfl
  · exact Or.inl (by decide)
  · exact Or.inl (by decide)
  · exact Or.inr (by decide)
  · exact Or.inr (by decide)
theorem bz_4 {a b : Nat} : (4 : Int32) * nI a + nI b = nI (4 * a + b) := by
  show nI 4 * nI a + nI b = _
  rw [bz_mul, bz_add]
section
variable {xs : az_X} {d : Nat} {nl c z : Nat} {I I' A : Nat → Nat → Int32} {J : Nat → Nat → Int64} {K : az_O → Prop}
theorem r125 {cd k : Nat} {now : Int32} {f : Nat → Int32} {s : (Nat → Int32) × (Nat → Int32) × (Nat → Int32) × (Nat → Int32)} (hR : rM I I' s f) (hM : mC I A now nl) (hcd : cd < 12) (hk : k < 60) (hkc : A 29 k = nI cd) (ho : az_in (A 30 k) 4 = true) (h19 : az_in (A 19 cd) 4 = true) (h20 : az_in (A 20 cd) 3 = true) (hK : ∀ I'', rM I I'' (pEd (A 30 k) (A 23 cd) (A 19 cd).toNatClampNeg (A 20 cd).toNatClampNeg k s) f → K (0, none, (az_S, I'', J, c, z))) : az_C xs (d + 1) 125 [.ref 152, .int (nI k)] (az_S, I', J, c, z) K := by
  have f1 : az_in (nI k) 60 = true := by rw [az_in_nI (by omega)]; simp; omega
  have f2 : az_in (nI cd) 12 = true := by rw [az_in_nI (by omega)]; simp; omega
  obtain ⟨⟨m1, m2, m3, m4⟩, ⟨m5, m6, m7, m8⟩, ⟨m9, m10⟩, m11⟩ := hM
  have e167 : I' 167 = A 29 := (rM_r hR (by decide)).trans m1
  have e168 : I' 168 = A 30 := (rM_r hR (by decide)).trans m2
  have e162 : I' 162 = A 23 := (rM_r hR (by decide)).trans m3
  have e158 : I' 158 = A 19 := (rM_r hR (by decide)).trans m4
  have e159 : I' 159 = A 20 := (rM_r hR (by decide)).trans m5
  obtain ⟨r1, r2, r3, r4, r5, r6⟩ := hR
  obtain ⟨hc4, hch⟩ := az_in_k h19
  obtain ⟨hl3, hld⟩ := az_in_k h20
  generalize (A 19 cd).toNatClampNeg = ch at *
  generalize (A 20 cd).toNatClampNeg = ld at *
  have f3 : az_in (nI ch) 4 = true := by rw [az_in_nI (by omega)]; simp; omega
  have f4 : az_in (nI (4 * ld + ch)) 12 = true := by rw [az_in_nI (by omega)]; simp; omega
  have z100 : ((100 : Int32) = 0) = False := by decide
  have h0 := r2 (4 * ld + ch) (by omega)
  rcases bz_or1 ho with ⟨h1, h2⟩ | ⟨h1, h2⟩
  · unfold pEd at hK
    simp only [h2, if_true] at hK
    simp (maxDischargeDepth := 7) only [C125, th125, s125_0, s125_1, s125_4, s125_5, s125_6, s125_7, s125_8, s125_11, s125_12, s125_13, s125_14, s125_15, s125_18, s125_19, s125_20, s125_22, s125_23, s125_26, s125_27, s125_28, s125_29, s125_32, s125_33, s125_36, s125_38, s125_39, s125_42, s125_43, s125_44, s125_45, s125_47, s125_48, s125_50, s125_51, s125_54, s125_55, s125_56, s125_57, s125_58, s125_61, s125_62, s125_63, s125_66, s125_67, s125_68, s125_69, s125_70, s125_71, s125_72, s125_73, s125_75, s125_76, s125_77, s125_78, s125_81, s125_82, s125_83, s125_84, s125_85, s125_88, s125_89, s125_90, s125_91, s125_94, s125_95, s125_98, s125_100, s125_102, s125_103, s125_104, s125_105, s125_106, s125_109, s125_110, s125_111, s125_112, s125_113, s125_116, s125_117, s125_118, s125_119, s125_122, s125_124, s125_127, s125_128, s125_129, s125_130, g152_18, A167, g152_8, A158, g152_20, A169, g152_19, A168, g152_12, A162, g152_45, A190, g152_9, A159, g152_41, A186, g152_42, A187, az_ex, az_bk0, az_bk1, az_bkx, az_cat0, az_cati, az_catr, az_catl, az_vi, az_vr, az_bo0, az_bo1, az_boi, true_and, and_true, if_true, if_false, ne_eq, not_true_eq_false, not_false_eq_true, List.set_cons_zero, List.set_cons_succ, Nat.reduceAdd, Nat.reduceLeDiff, Nat.reduceEqDiff, ↓reduceIte, reduceCtorEq, Nat.reduceSub, Nat.reduceMul, Int32.reduceLT, Int32.reduceLE, Int32.reduceAdd, Int32.reduceMul, Int32.reduceSub, az_ne10, az_ne20, az_ne30, Nat.zero_le, az_q0_1, az_q0_2, az_q0_3, az_q0_4, az_q0_5, az_q0_6, az_q0_7, az_q0_8, az_q1_0, az_q1_2, az_q1_3, az_q1_4, az_q1_5, az_q1_6, az_q1_7, az_q1_8, az_q2_0, az_q2_1, az_q2_3, az_q2_4, az_q2_5, az_q2_6, az_q2_7, az_q2_8, az_q3_0, az_q3_1, az_q3_2, az_q3_4, az_q3_5, az_q3_6, az_q3_7, az_q3_8, az_q4_0, az_q4_1, az_q4_2, az_q4_3, az_q4_5, az_q4_6, az_q4_7, az_q4_8, az_q5_0, az_q5_1, az_q5_2, az_q5_3, az_q5_4, az_q5_6, az_q5_7, az_q5_8, az_q6_0, az_q6_1, az_q6_2, az_q6_3, az_q6_4, az_q6_5, az_q6_7, az_q6_8, az_q7_0, az_q7_1, az_q7_2, az_q7_3, az_q7_4, az_q7_5, az_q7_6, az_q7_8, az_q8_0, az_q8_1, az_q8_2, az_q8_3, az_q8_4, az_q8_5, az_q8_6, az_q8_7, az_z10, az_z60, az_z100, az_z1000, az_z1001, az_z10000, az_upe, e167, e168, e162, e158, e159, hkc, hch, hld, h1, z100, bz_4, f1, f2, f3, f4, r1, r3, r4, h0, Int32.add_zero, nI_clamp (show cd < 2 ^ 31 by omega), nI_clamp (show k < 2 ^ 31 by omega), nI_clamp (show ch < 2 ^ 31 by omega), nI_clamp (show 4 * ld + ch < 2 ^ 31 by omega)]
    refine hK _ ⟨by simp [az_upe, r1], ?_, by simp [az_upe, r3], by simp [az_upe, r4, upd_same], by simp [az_upe, r5], ?_⟩
    · intro q hq
      simp only [az_upe, Nat.reduceEqDiff, ↓reduceIte, upde]
      split
      · rfl
      · exact r2 q hq
    · intro a a1 a2 a3 a4 a5
      rw [az_up_ne a4, az_up_ne a3, az_up_ne a2, az_up_ne a1]
      exact r6 a a1 a2 a3 a4 a5
  · unfold pEd at hK
    simp only [h2, if_false] at hK
    simp (maxDischargeDepth := 7) only [C125, th125, s125_0, s125_1, s125_4, s125_5, s125_6, s125_7, s125_8, s125_11, s125_12, s125_13, s125_14, s125_15, s125_18, s125_19, s125_20, s125_22, s125_23, s125_26, s125_27, s125_28, s125_29, s125_32, s125_33, s125_36, s125_38, s125_39, s125_42, s125_43, s125_44, s125_45, s125_47, s125_48, s125_50, s125_51, s125_54, s125_55, s125_56, s125_57, s125_58, s125_61, s125_62, s125_63, s125_66, s125_67, s125_68, s125_69, s125_70, s125_71, s125_72, s125_73, s125_75, s125_76, s125_77, s125_78, s125_81, s125_82, s125_83, s125_84, s125_85, s125_88, s125_89, s125_90, s125_91, s125_94, s125_95, s125_98, s125_100, s125_102, s125_103, s125_104, s125_105, s125_106, s125_109, s125_110, s125_111, s125_112, s125_113, s125_116, s125_117, s125_118, s125_119, s125_122, s125_124, s125_127, s125_128, s125_129, s125_130, g152_18, A167, g152_8, A158, g152_20, A169, g152_19, A168, g152_12, A162, g152_45, A190, g152_9, A159, g152_41, A186, g152_42, A187, az_ex, az_bk0, az_bk1, az_bkx, az_cat0, az_cati, az_catr, az_catl, az_vi, az_vr, az_bo0, az_bo1, az_boi, true_and, and_true, if_true, if_false, ne_eq, not_true_eq_false, not_false_eq_true, List.set_cons_zero, List.set_cons_succ, Nat.reduceAdd, Nat.reduceLeDiff, Nat.reduceEqDiff, ↓reduceIte, reduceCtorEq, Nat.reduceSub, Nat.reduceMul, Int32.reduceLT, Int32.reduceLE, Int32.reduceAdd, Int32.reduceMul, Int32.reduceSub, az_ne10, az_ne20, az_ne30, Nat.zero_le, az_q0_1, az_q0_2, az_q0_3, az_q0_4, az_q0_5, az_q0_6, az_q0_7, az_q0_8, az_q1_0, az_q1_2, az_q1_3, az_q1_4, az_q1_5, az_q1_6, az_q1_7, az_q1_8, az_q2_0, az_q2_1, az_q2_3, az_q2_4, az_q2_5, az_q2_6, az_q2_7, az_q2_8, az_q3_0, az_q3_1, az_q3_2, az_q3_4, az_q3_5, az_q3_6, az_q3_7, az_q3_8, az_q4_0, az_q4_1, az_q4_2, az_q4_3, az_q4_5, az_q4_6, az_q4_7, az_q4_8, az_q5_0, az_q5_1, az_q5_2, az_q5_3, az_q5_4, az_q5_6, az_q5_7, az_q5_8, az_q6_0, az_q6_1, az_q6_2, az_q6_3, az_q6_4, az_q6_5, az_q6_7, az_q6_8, az_q7_0, az_q7_1, az_q7_2, az_q7_3, az_q7_4, az_q7_5, az_q7_6, az_q7_8, az_q8_0, az_q8_1, az_q8_2, az_q8_3, az_q8_4, az_q8_5, az_q8_6, az_q8_7, az_z10, az_z60, az_z100, az_z1000, az_z1001, az_z10000, az_upe, e167, e168, e162, e158, e159, hkc, hch, hld, h1, z100, bz_4, f1, f2, f3, f4, r1, r3, r4, h0, Int32.add_zero, nI_clamp (show cd < 2 ^ 31 by omega), nI_clamp (show k < 2 ^ 31 by omega), nI_clamp (show ch < 2 ^ 31 by omega), nI_clamp (show 4 * ld + ch < 2 ^ 31 by omega)]
    refine hK _ ⟨by simp [az_upe, r1], ?_, by simp [az_upe, r3, upd_same], by simp [az_upe, r4], by simp [az_upe, r5], ?_⟩
    · intro q hq
      simp only [az_upe, Nat.reduceEqDiff, ↓reduceIte, upde]
      split
      · rename_i h; rw [h]
      · exact r2 q hq
    · intro a a1 a2 a3 a4 a5
      rw [az_up_ne a4, az_up_ne a3, az_up_ne a2, az_up_ne a1]
      exact r6 a a1 a2 a3 a4 a5
theorem m127i {cd : Nat} {now : Int32} {f : Nat → Int32} {s : (Nat → Int32) × (Nat → Int32) × (Nat → Int32) × (Nat → Int32)} (hR : rM I I' s f) (hM : mC I A now nl) (hn : nl ≤ 60) (hcd : cd < 12) (ho : ∀ k, k < nl → az_in (A 30 k) 4 = true) (h19 : az_in (A 19 cd) 4 = true) (h20 : az_in (A 20 cd) 3 = true) (hK : ∀ I'', rM I I'' (fd (pEs A now cd) nl 0 s) f → az_W xs (d + 2) 127 95 [some (.ref 152), some (.int (nI cd)), some (.int (nI nl))] [] (az_S, I'', J, c, z) K) : az_W xs (d + 2) 127 53 [some (.ref 152), some (.int (nI cd)), some (.int 0)] [] (az_S, I', J, c, z) K := by
  obtain ⟨⟨m1, m2, m3, m4⟩, ⟨m5, m6, m7, m8⟩, ⟨m9, m10⟩, m11⟩ := id hM
  have key := az_loopB (n := nl) (h := pEs A now cd) (Inv := fun _ _ => True) (W := fun j s => ∀ I', rM I I' s f → az_W xs (d + 2) 127 53 [some (.ref 152), some (.int (nI cd)), some (.int (nI j))] [] (az_S, I', J, c, z) K) (fun _ _ _ _ => trivial) ?_ nl 0 s (Nat.zero_add _) trivial ?_
  · exact key I' hR
  · intro j s hj _ hw I' hR
    have f1 : az_in (nI j) 60 = true := by rw [az_in_nI (by omega)]; simp; omega
    have f2 : (nI nl ≤ nI j) = False := by rw [bz_le (by omega) (by omega)]; simp; omega
    have e152 : I' 152 = I 152 := rM_r hR (by decide)
    have e167 : I' 167 = A 29 := (rM_r hR (by decide)).trans m1
    have e171 : I' 171 = fun j => az_nv (A 33 j) := (rM_r hR (by decide)).trans m8
    refine s127_53.mpr ?_
    unfold pEs at hw
    by_cases hh : A 29 j = nI cd
    · by_cases hg : A 33 j = now
      · simp only [hh, hg, if_true] at hw
        have hg' := (m11 j hj).mpr hg
        simp (maxDischargeDepth := 7) only [C127, th127, s127_0, s127_1, s127_2, s127_5, s127_8, s127_11, s127_12, s127_15, s127_16, s127_19, s127_22, s127_23, s127_24, s127_25, s127_26, s127_29, s127_30, s127_31, s127_34, s127_35, s127_36, s127_37, s127_38, s127_41, s127_44, s127_45, s127_48, s127_49, s127_50, s127_51, s127_52, s127_54, s127_55, s127_58, s127_61, s127_62, s127_65, s127_66, s127_67, s127_68, s127_71, s127_72, s127_75, s127_76, s127_77, s127_78, s127_81, s127_84, s127_85, s127_86, s127_89, s127_92, s127_96, s127_99, s127_100, s127_103, s127_104, s127_105, s127_106, s127_108, s127_111, s127_112, s127_113, s127_116, s127_119, s127_122, s127_123, s127_126, g152_1, cc89, p152_1, g152_7, g152_15, A165, g152_17, g152_18, A167, g152_22, A171, cc125, g152_14, A164, cc126, az_ex, az_bk0, az_bk1, az_bkx, az_cat0, az_cati, az_catr, az_catl, az_vi, az_vr, az_bo0, az_bo1, az_boi, true_and, and_true, if_true, if_false, ne_eq, not_true_eq_false, not_false_eq_true, List.set_cons_zero, List.set_cons_succ, Nat.reduceAdd, Nat.reduceLeDiff, Nat.reduceEqDiff, ↓reduceIte, reduceCtorEq, Nat.reduceSub, Nat.reduceMul, Int32.reduceLT, Int32.reduceLE, Int32.reduceAdd, Int32.reduceMul, Int32.reduceSub, az_ne10, az_ne20, az_ne30, Nat.zero_le, e152, e167, e171, m9, m10, f1, f2, hh, hg', nI_clamp (show j < 2 ^ 31 by omega)]
        refine r125 hR hM hcd (show j < 60 by omega) hh (ho j hj) h19 h20 ?_
        intro I'' hR2
        simp (maxDischargeDepth := 7) only [C127, th127, s127_0, s127_1, s127_2, s127_5, s127_8, s127_11, s127_12, s127_15, s127_16, s127_19, s127_22, s127_23, s127_24, s127_25, s127_26, s127_29, s127_30, s127_31, s127_34, s127_35, s127_36, s127_37, s127_38, s127_41, s127_44, s127_45, s127_48, s127_49, s127_50, s127_51, s127_52, s127_54, s127_55, s127_58, s127_61, s127_62, s127_65, s127_66, s127_67, s127_68, s127_71, s127_72, s127_75, s127_76, s127_77, s127_78, s127_81, s127_84, s127_85, s127_86, s127_89, s127_92, s127_96, s127_99, s127_100, s127_103, s127_104, s127_105, s127_106, s127_108, s127_111, s127_112, s127_113, s127_116, s127_119, s127_122, s127_123, s127_126, g152_1, cc89, p152_1, g152_7, g152_15, A165, g152_17, g152_18, A167, g152_22, A171, cc125, g152_14, A164, cc126, az_ex, az_bk0, az_bk1, az_bkx, az_cat0, az_cati, az_catr, az_catl, az_vi, az_vr, az_bo0, az_bo1, az_boi, true_and, and_true, if_true, if_false, ne_eq, not_true_eq_false, not_false_eq_true, List.set_cons_zero, List.set_cons_succ, Nat.reduceAdd, Nat.reduceLeDiff, Nat.reduceEqDiff, ↓reduceIte, reduceCtorEq, Nat.reduceSub, Nat.reduceMul, Int32.reduceLT, Int32.reduceLE, Int32.reduceAdd, Int32.reduceMul, Int32.reduceSub, az_ne10, az_ne20, az_ne30, Nat.zero_le, nI_1]
        exact hw _ hR2
      · simp only [hh, hg, if_true, if_false] at hw
        have hg' : ¬ az_nv (A 33 j) = now := fun h => hg ((m11 j hj).mp h)
        simp (maxDischargeDepth := 7) only [C127, th127, s127_0, s127_1, s127_2, s127_5, s127_8, s127_11, s127_12, s127_15, s127_16, s127_19, s127_22, s127_23, s127_24, s127_25, s127_26, s127_29, s127_30, s127_31, s127_34, s127_35, s127_36, s127_37, s127_38, s127_41, s127_44, s127_45, s127_48, s127_49, s127_50, s127_51, s127_52, s127_54, s127_55, s127_58, s127_61, s127_62, s127_65, s127_66, s127_67, s127_68, s127_71, s127_72, s127_75, s127_76, s127_77, s127_78, s127_81, s127_84, s127_85, s127_86, s127_89, s127_92, s127_96, s127_99, s127_100, s127_103, s127_104, s127_105, s127_106, s127_108, s127_111, s127_112, s127_113, s127_116, s127_119, s127_122, s127_123, s127_126, g152_1, cc89, p152_1, g152_7, g152_15, A165, g152_17, g152_18, A167, g152_22, A171, cc125, g152_14, A164, cc126, az_ex, az_bk0, az_bk1, az_bkx, az_cat0, az_cati, az_catr, az_catl, az_vi, az_vr, az_bo0, az_bo1, az_boi, true_and, and_true, if_true, if_false, ne_eq, not_true_eq_false, not_false_eq_true, List.set_cons_zero, List.set_cons_succ, Nat.reduceAdd, Nat.reduceLeDiff, Nat.reduceEqDiff, ↓reduceIte, reduceCtorEq, Nat.reduceSub, Nat.reduceMul, Int32.reduceLT, Int32.reduceLE, Int32.reduceAdd, Int32.reduceMul, Int32.reduceSub, az_ne10, az_ne20, az_ne30, Nat.zero_le, e152, e167, e171, m9, m10, f1, f2, hh, hg', nI_1, nI_clamp (show j < 2 ^ 31 by omega)]
        exact hw _ hR
    · simp only [hh, if_false] at hw
      simp (maxDischargeDepth := 7) only [C127, th127, s127_0, s127_1, s127_2, s127_5, s127_8, s127_11, s127_12, s127_15, s127_16, s127_19, s127_22, s127_23, s127_24, s127_25, s127_26, s127_29, s127_30, s127_31, s127_34, s127_35, s127_36, s127_37, s127_38, s127_41, s127_44, s127_45, s127_48, s127_49, s127_50, s127_51, s127_52, s127_54, s127_55, s127_58, s127_61, s127_62, s127_65, s127_66, s127_67, s127_68, s127_71, s127_72, s127_75, s127_76, s127_77, s127_78, s127_81, s127_84, s127_85, s127_86, s127_89, s127_92, s127_96, s127_99, s127_100, s127_103, s127_104, s127_105, s127_106, s127_108, s127_111, s127_112, s127_113, s127_116, s127_119, s127_122, s127_123, s127_126, g152_1, cc89, p152_1, g152_7, g152_15, A165, g152_17, g152_18, A167, g152_22, A171, cc125, g152_14, A164, cc126, az_ex, az_bk0, az_bk1, az_bkx, az_cat0, az_cati, az_catr, az_catl, az_vi, az_vr, az_bo0, az_bo1, az_boi, true_and, and_true, if_true, if_false, ne_eq, not_true_eq_false, not_false_eq_true, List.set_cons_zero, List.set_cons_succ, Nat.reduceAdd, Nat.reduceLeDiff, Nat.reduceEqDiff, ↓reduceIte, reduceCtorEq, Nat.reduceSub, Nat.reduceMul, Int32.reduceLT, Int32.reduceLE, Int32.reduceAdd, Int32.reduceMul, Int32.reduceSub, az_ne10, az_ne20, az_ne30, Nat.zero_le, e152, e167, e171, m9, m10, f1, f2, hh, nI_1, nI_clamp (show j < 2 ^ 31 by omega)]
      exact hw _ hR
  · intro I' hR
    have f3 : (nI nl ≤ nI nl) = True := by rw [bz_le (by omega) (by omega)]; simp
    have e152 : I' 152 = I 152 := rM_r hR (by decide)
    refine s127_53.mpr ?_
    simp (maxDischargeDepth := 7) only [C127, th127, s127_0, s127_1, s127_2, s127_5, s127_8, s127_11, s127_12, s127_15, s127_16, s127_19, s127_22, s127_23, s127_24, s127_25, s127_26, s127_29, s127_30, s127_31, s127_34, s127_35, s127_36, s127_37, s127_38, s127_41, s127_44, s127_45, s127_48, s127_49, s127_50, s127_51, s127_52, s127_54, s127_55, s127_58, s127_61, s127_62, s127_65, s127_66, s127_67, s127_68, s127_71, s127_72, s127_75, s127_76, s127_77, s127_78, s127_81, s127_84, s127_85, s127_86, s127_89, s127_92, s127_96, s127_99, s127_100, s127_103, s127_104, s127_105, s127_106, s127_108, s127_111, s127_112, s127_113, s127_116, s127_119, s127_122, s127_123, s127_126, g152_1, cc89, p152_1, g152_7, g152_15, A165, g152_17, g152_18, A167, g152_22, A171, cc125, g152_14, A164, cc126, az_ex, az_bk0, az_bk1, az_bkx, az_cat0, az_cati, az_catr, az_catl, az_vi, az_vr, az_bo0, az_bo1, az_boi, true_and, and_true, if_true, if_false, ne_eq, not_true_eq_false, not_false_eq_true, List.set_cons_zero, List.set_cons_succ, Nat.reduceAdd, Nat.reduceLeDiff, Nat.reduceEqDiff, ↓reduceIte, reduceCtorEq, Nat.reduceSub, Nat.reduceMul, Int32.reduceLT, Int32.reduceLE, Int32.reduceAdd, Int32.reduceMul, Int32.reduceSub, az_ne10, az_ne20, az_ne30, Nat.zero_le, e152, m9, f3]
    exact hK _ hR
end
