/-! a month comes: the class -/
/-- what the class keeps of a month, for the rest nothing -/
def rC (I I' : Nat → Nat → Int32) (s : (Nat → Int32) × (Nat → Int32) × (Nat → Int32) × (Nat → Int32)) : Prop := I' 31 = s.1 ∧ (∀ l, l < 3 → ∀ c, c < 4 → I' (15 + l) c = s.2.1 (4 * l + c)) ∧ I' 10 = s.2.2.1 ∧ I' 11 = s.2.2.2 ∧ ∀ a, a ≠ 31 → a ≠ 15 → a ≠ 16 → a ≠ 17 → a ≠ 10 → a ≠ 11 → a ≠ 34 → a ≠ 35 → I' a = I a
def pEd (og shr : Int32) (ch ld k : Nat) (s : (Nat → Int32) × (Nat → Int32) × (Nat → Int32) × (Nat → Int32)) : (Nat → Int32) × (Nat → Int32) × (Nat → Int32) × (Nat → Int32) :=
  if og = 0 ∨ og = 1 then (upd s.1 k 0, upd s.2.1 (4 * ld + ch) (s.2.1 (4 * ld + ch) + s.1 k * shr / 100), upd s.2.2.1 ch (s.2.2.1 ch + (s.1 k - s.1 k * shr / 100)), s.2.2.2) else (upd s.1 k 0, s.2.1, s.2.2.1, upd s.2.2.2 ch (s.2.2.2 ch + s.1 k))
theorem pEd_or {og shr : Int32} {ch ld k : Nat} {s : (Nat → Int32) × (Nat → Int32) × (Nat → Int32) × (Nat → Int32)} : (pEd og shr ch ld k s).1 = upd s.1 k 0 := by
  unfold pEd
  split <;> rfl
def pEs (I : Nat → Nat → Int32) (now : Int32) (cd k : Nat) (s : (Nat → Int32) × (Nat → Int32) × (Nat → Int32) × (Nat → Int32)) : (Nat → Int32) × (Nat → Int32) × (Nat → Int32) × (Nat → Int32) :=
  if I 29 k = nI cd then (if I 33 k = now then pEd (I 30 k) (I 23 cd) (I 19 cd).toNatClampNeg (I 20 cd).toNatClampNeg k s else s) else s
/-- the fee -/
def pFe (I : Nat → Nat → Int32) (now : Int32) (nl cd : Nat) (s : (Nat → Int32) × (Nat → Int32) × (Nat → Int32) × (Nat → Int32)) : (Nat → Int32) × (Nat → Int32) × (Nat → Int32) × (Nat → Int32) :=
  if now - I 25 cd < 12 then s else ((tk (ordR (ltb (fun j => az_nv (I 33 j)) (I 30)) (pOn (I 29) s.1 (nI cd)) nl).reverse (s.1, (fun _ => 0), I 22 cd)).1, s.2.1, upd s.2.2.1 (I 19 cd).toNatClampNeg (s.2.2.1 (I 19 cd).toNatClampNeg + (I 22 cd - (tk (ordR (ltb (fun j => az_nv (I 33 j)) (I 30)) (pOn (I 29) s.1 (nI cd)) nl).reverse (s.1, (fun _ => 0), I 22 cd)).2.2)), s.2.2.2)
theorem owes_up {D : Nat → Nat → Int32} {o : Nat → Int32} {ld ch : Nat} {v : Int32} (h : ∀ l, l < 3 → ∀ c, c < 4 → D l c = o (4 * l + c)) (hc : ch < 4) : ∀ l, l < 3 → ∀ c, c < 4 → (if l = ld then upd (D l) ch v else D l) c = upd o (4 * ld + ch) v (4 * l + c) := by
  intro l hl c hc2
  rw [upde]
  by_cases h1 : l = ld
  · subst h1
    rw [if_pos rfl, upde]
    by_cases h2 : c = ch
    · subst h2; rw [if_pos rfl, if_pos rfl]
    · rw [if_neg h2, if_neg (by omega), h l hl c hc2]
  · rw [if_neg h1, if_neg (by omega), h l hl c hc2]
section
variable {xs : az_X} {d : Nat} {nl c z : Nat} {I I' : Nat → Nat → Int32} {J : Nat → Nat → Int64} {K : az_O → Prop}
theorem c81 {cd k : Nat} {s : (Nat → Int32) × (Nat → Int32) × (Nat → Int32) × (Nat → Int32)} (hR : rC I I' s) (hcd : cd < 12) (hk : k < 60) (h19 : az_in (I 19 cd) 4 = true) (h20 : az_in (I 20 cd) 3 = true) (hK : ∀ I'', rC I I'' (pEd (I 30 k) (I 23 cd) (I 19 cd).toNatClampNeg (I 20 cd).toNatClampNeg k s) → K (0, none, (az_S, I'', J, c, z))) : az_C xs (d + 1) 81 [.ref 0, .int (nI cd), .int (nI k)] (az_S, I', J, c, z) K := by
  obtain ⟨r1, r2, r3, r4, r5⟩ := hR
  have f1 : az_in (nI k) 60 = true := by rw [az_in_nI (by omega)]; simp; omega
  have f2 : az_in (nI cd) 12 = true := by rw [az_in_nI (by omega)]; simp; omega
  have e19 : I' 19 = I 19 := r5 19 (by decide) (by decide) (by decide) (by decide) (by decide) (by decide) (by decide) (by decide)
  have e20 : I' 20 = I 20 := r5 20 (by decide) (by decide) (by decide) (by decide) (by decide) (by decide) (by decide) (by decide)
  have e23 : I' 23 = I 23 := r5 23 (by decide) (by decide) (by decide) (by decide) (by decide) (by decide) (by decide) (by decide)
  have e30 : I' 30 = I 30 := r5 30 (by decide) (by decide) (by decide) (by decide) (by decide) (by decide) (by decide) (by decide)
  obtain ⟨hc4, hch⟩ := az_in_k h19
  obtain ⟨hl3, hld⟩ := az_in_k h20
  generalize (I 19 cd).toNatClampNeg = ch at *
  generalize (I 20 cd).toNatClampNeg = ld at *
  have f3 : az_in (nI ch) 4 = true := by rw [az_in_nI (by omega)]; simp; omega
  have z100 : ((100 : Int32) = 0) = False := by decide
  by_cases ho : I 30 k = 0 ∨ I 30 k = 1
  · unfold pEd at hK
    simp only [ho, if_true] at hK
    have hg : az_W xs d 81 56 [some (.ref 0), some (.int (nI cd)), some (.int (nI k)), some (.int (nI ch)), some (.int (s.1 k)), none] [] (az_S, az_up I' 31 k 0, J, c, z) K := by
      have hl : ld = 0 ∨ ld = 1 ∨ ld = 2 := by omega
      rcases hl with rfl | rfl | rfl
      · have h0 := r2 0 (by omega) ch hc4
        simp (maxDischargeDepth := 7) only [C81, th81, s81_0, s81_1, s81_4, s81_7, s81_8, s81_9, s81_10, s81_11, s81_14, s81_17, s81_18, s81_19, s81_21, s81_22, s81_25, s81_28, s81_29, s81_30, s81_31, s81_32, s81_35, s81_38, s81_39, s81_40, s81_43, s81_44, s81_47, s81_50, s81_51, s81_52, s81_53, s81_56, s81_58, s81_59, s81_62, s81_65, s81_66, s81_67, s81_68, s81_70, s81_71, s81_73, s81_74, s81_77, s81_80, s81_81, s81_84, s81_87, s81_88, s81_89, s81_90, s81_91, s81_92, s81_93, s81_95, s81_96, s81_97, s81_98, s81_101, s81_104, s81_105, s81_106, s81_107, s81_109, s81_111, s81_112, s81_113, s81_114, s81_117, s81_118, s81_121, s81_124, s81_125, s81_126, s81_127, s81_129, s81_130, s81_131, g0_2, g18_0, A19, g0_3, g28_2, A31, g28_1, A30, g18_4, A23, g0_1, g5_8, R14, AR14, g18_1, A20, g5_4, A10, g5_5, A11, az_ex, az_bk0, az_bk1, az_bkx, az_cat0, az_cati, az_catr, az_catl, az_vi, az_vr, az_bo0, az_bo1, az_boi, true_and, and_true, if_true, if_false, ne_eq, not_true_eq_false, not_false_eq_true, List.set_cons_zero, List.set_cons_succ, Nat.reduceAdd, Nat.reduceLeDiff, Nat.reduceEqDiff, ↓reduceIte, reduceCtorEq, Nat.reduceSub, Nat.reduceMul, Int32.reduceLT, Int32.reduceLE, Int32.reduceAdd, Int32.reduceMul, Int32.reduceSub, az_ne10, az_ne20, az_ne30, Nat.zero_le, az_upe, e20, e23, hld, f2, f3, nI_clamp (show cd < 2 ^ 31 by omega), nI_clamp (show ch < 2 ^ 31 by omega), nI_clamp (show 0 < 2 ^ 31 by omega), show az_in (nI 0) 3 = true by decide, R14, A15, z100]
        refine hK _ ⟨by simp [az_upe, r1], ?_, ?_, by simp [az_upe, r4], ?_⟩
        · intro l hl c hc
          have := owes_up (ld := 0) (v := s.2.1 (4 * 0 + ch) + s.1 k * I 23 cd / 100) r2 hc4 l hl c hc
          refine Eq.trans ?_ this
          rw [← h0]
          match l, hl with
          | 0, _ => simp [az_upe]
          | 1, _ => simp [az_upe]
          | 2, _ => simp [az_upe]
        · simp [az_upe, r3]
        · intro a a1 a2 a3 a4 a5 a6 a7 a8
          rw [az_up_ne a5, az_up_ne a2, az_up_ne a1]
          exact r5 a a1 a2 a3 a4 a5 a6 a7 a8
      · have h0 := r2 1 (by omega) ch hc4
        simp (maxDischargeDepth := 7) only [C81, th81, s81_0, s81_1, s81_4, s81_7, s81_8, s81_9, s81_10, s81_11, s81_14, s81_17, s81_18, s81_19, s81_21, s81_22, s81_25, s81_28, s81_29, s81_30, s81_31, s81_32, s81_35, s81_38, s81_39, s81_40, s81_43, s81_44, s81_47, s81_50, s81_51, s81_52, s81_53, s81_56, s81_58, s81_59, s81_62, s81_65, s81_66, s81_67, s81_68, s81_70, s81_71, s81_73, s81_74, s81_77, s81_80, s81_81, s81_84, s81_87, s81_88, s81_89, s81_90, s81_91, s81_92, s81_93, s81_95, s81_96, s81_97, s81_98, s81_101, s81_104, s81_105, s81_106, s81_107, s81_109, s81_111, s81_112, s81_113, s81_114, s81_117, s81_118, s81_121, s81_124, s81_125, s81_126, s81_127, s81_129, s81_130, s81_131, g0_2, g18_0, A19, g0_3, g28_2, A31, g28_1, A30, g18_4, A23, g0_1, g5_8, R14, AR14, g18_1, A20, g5_4, A10, g5_5, A11, az_ex, az_bk0, az_bk1, az_bkx, az_cat0, az_cati, az_catr, az_catl, az_vi, az_vr, az_bo0, az_bo1, az_boi, true_and, and_true, if_true, if_false, ne_eq, not_true_eq_false, not_false_eq_true, List.set_cons_zero, List.set_cons_succ, Nat.reduceAdd, Nat.reduceLeDiff, Nat.reduceEqDiff, ↓reduceIte, reduceCtorEq, Nat.reduceSub, Nat.reduceMul, Int32.reduceLT, Int32.reduceLE, Int32.reduceAdd, Int32.reduceMul, Int32.reduceSub, az_ne10, az_ne20, az_ne30, Nat.zero_le, az_upe, e20, e23, hld, f2, f3, nI_clamp (show cd < 2 ^ 31 by omega), nI_clamp (show ch < 2 ^ 31 by omega), nI_clamp (show 1 < 2 ^ 31 by omega), show az_in (nI 1) 3 = true by decide, R14, A16, z100]
        refine hK _ ⟨by simp [az_upe, r1], ?_, ?_, by simp [az_upe, r4], ?_⟩
        · intro l hl c hc
          have := owes_up (ld := 1) (v := s.2.1 (4 * 1 + ch) + s.1 k * I 23 cd / 100) r2 hc4 l hl c hc
          refine Eq.trans ?_ this
          rw [← h0]
          match l, hl with
          | 0, _ => simp [az_upe]
          | 1, _ => simp [az_upe]
          | 2, _ => simp [az_upe]
        · simp [az_upe, r3]
        · intro a a1 a2 a3 a4 a5 a6 a7 a8
          rw [az_up_ne a5, az_up_ne a3, az_up_ne a1]
          exact r5 a a1 a2 a3 a4 a5 a6 a7 a8
      · have h0 := r2 2 (by omega) ch hc4
        simp (maxDischargeDepth := 7) only [C81, th81, s81_0, s81_1, s81_4, s81_7, s81_8, s81_9, s81_10, s81_11, s81_14, s81_17, s81_18, s81_19, s81_21, s81_22, s81_25, s81_28, s81_29, s81_30, s81_31, s81_32, s81_35, s81_38, s81_39, s81_40, s81_43, s81_44, s81_47, s81_50, s81_51, s81_52, s81_53, s81_56, s81_58, s81_59, s81_62, s81_65, s81_66, s81_67, s81_68, s81_70, s81_71, s81_73, s81_74, s81_77, s81_80, s81_81, s81_84, s81_87, s81_88, s81_89, s81_90, s81_91, s81_92, s81_93, s81_95, s81_96, s81_97, s81_98, s81_101, s81_104, s81_105, s81_106, s81_107, s81_109, s81_111, s81_112, s81_113, s81_114, s81_117, s81_118, s81_121, s81_124, s81_125, s81_126, s81_127, s81_129, s81_130, s81_131, g0_2, g18_0, A19, g0_3, g28_2, A31, g28_1, A30, g18_4, A23, g0_1, g5_8, R14, AR14, g18_1, A20, g5_4, A10, g5_5, A11, az_ex, az_bk0, az_bk1, az_bkx, az_cat0, az_cati, az_catr, az_catl, az_vi, az_vr, az_bo0, az_bo1, az_boi, true_and, and_true, if_true, if_false, ne_eq, not_true_eq_false, not_false_eq_true, List.set_cons_zero, List.set_cons_succ, Nat.reduceAdd, Nat.reduceLeDiff, Nat.reduceEqDiff, ↓reduceIte, reduceCtorEq, Nat.reduceSub, Nat.reduceMul, Int32.reduceLT, Int32.reduceLE, Int32.reduceAdd, Int32.reduceMul, Int32.reduceSub, az_ne10, az_ne20, az_ne30, Nat.zero_le, az_upe, e20, e23, hld, f2, f3, nI_clamp (show cd < 2 ^ 31 by omega), nI_clamp (show ch < 2 ^ 31 by omega), nI_clamp (show 2 < 2 ^ 31 by omega), show az_in (nI 2) 3 = true by decide, R14, A17, z100]
        refine hK _ ⟨by simp [az_upe, r1], ?_, ?_, by simp [az_upe, r4], ?_⟩
        · intro l hl c hc
          have := owes_up (ld := 2) (v := s.2.1 (4 * 2 + ch) + s.1 k * I 23 cd / 100) r2 hc4 l hl c hc
          refine Eq.trans ?_ this
          rw [← h0]
          match l, hl with
          | 0, _ => simp [az_upe]
          | 1, _ => simp [az_upe]
          | 2, _ => simp [az_upe]
        · simp [az_upe, r3]
        · intro a a1 a2 a3 a4 a5 a6 a7 a8
          rw [az_up_ne a5, az_up_ne a4, az_up_ne a1]
          exact r5 a a1 a2 a3 a4 a5 a6 a7 a8
    rcases ho with ho | ho
    · simp (maxDischargeDepth := 7) only [C81, th81, s81_0, s81_1, s81_4, s81_7, s81_8, s81_9, s81_10, s81_11, s81_14, s81_17, s81_18, s81_19, s81_21, s81_22, s81_25, s81_28, s81_29, s81_30, s81_31, s81_32, s81_35, s81_38, s81_39, s81_40, s81_43, s81_44, s81_47, s81_50, s81_51, s81_52, s81_53, s81_58, s81_59, s81_62, s81_65, s81_66, s81_67, s81_68, s81_70, s81_71, s81_73, s81_74, s81_77, s81_80, s81_81, s81_84, s81_87, s81_88, s81_89, s81_90, s81_91, s81_92, s81_93, s81_95, s81_96, s81_97, s81_98, s81_101, s81_104, s81_105, s81_106, s81_107, s81_109, s81_111, s81_112, s81_113, s81_114, s81_117, s81_118, s81_121, s81_124, s81_125, s81_126, s81_127, s81_129, s81_130, s81_131, g0_2, g18_0, A19, g0_3, g28_2, A31, g28_1, A30, g18_4, A23, g0_1, g5_8, R14, AR14, g18_1, A20, g5_4, A10, g5_5, A11, az_ex, az_bk0, az_bk1, az_bkx, az_cat0, az_cati, az_catr, az_catl, az_vi, az_vr, az_bo0, az_bo1, az_boi, true_and, and_true, if_true, if_false, ne_eq, not_true_eq_false, not_false_eq_true, List.set_cons_zero, List.set_cons_succ, Nat.reduceAdd, Nat.reduceLeDiff, Nat.reduceEqDiff, ↓reduceIte, reduceCtorEq, Nat.reduceSub, Nat.reduceMul, Int32.reduceLT, Int32.reduceLE, Int32.reduceAdd, Int32.reduceMul, Int32.reduceSub, az_ne10, az_ne20, az_ne30, Nat.zero_le, az_q0_1, az_q0_2, az_q0_3, az_q0_4, az_q0_5, az_q0_6, az_q0_7, az_q0_8, az_q1_0, az_q1_2, az_q1_3, az_q1_4, az_q1_5, az_q1_6, az_q1_7, az_q1_8, az_q2_0, az_q2_1, az_q2_3, az_q2_4, az_q2_5, az_q2_6, az_q2_7, az_q2_8, az_q3_0, az_q3_1, az_q3_2, az_q3_4, az_q3_5, az_q3_6, az_q3_7, az_q3_8, az_q4_0, az_q4_1, az_q4_2, az_q4_3, az_q4_5, az_q4_6, az_q4_7, az_q4_8, az_q5_0, az_q5_1, az_q5_2, az_q5_3, az_q5_4, az_q5_6, az_q5_7, az_q5_8, az_q6_0, az_q6_1, az_q6_2, az_q6_3, az_q6_4, az_q6_5, az_q6_7, az_q6_8, az_q7_0, az_q7_1, az_q7_2, az_q7_3, az_q7_4, az_q7_5, az_q7_6, az_q7_8, az_q8_0, az_q8_1, az_q8_2, az_q8_3, az_q8_4, az_q8_5, az_q8_6, az_q8_7, az_z10, az_z60, az_z100, az_z1000, az_z1001, az_z10000, az_upe, e19, e30, r1, hch, ho, f1, f2, nI_clamp (show cd < 2 ^ 31 by omega), nI_clamp (show k < 2 ^ 31 by omega)]
      exact hg
    · simp (maxDischargeDepth := 7) only [C81, th81, s81_0, s81_1, s81_4, s81_7, s81_8, s81_9, s81_10, s81_11, s81_14, s81_17, s81_18, s81_19, s81_21, s81_22, s81_25, s81_28, s81_29, s81_30, s81_31, s81_32, s81_35, s81_38, s81_39, s81_40, s81_43, s81_44, s81_47, s81_50, s81_51, s81_52, s81_53, s81_58, s81_59, s81_62, s81_65, s81_66, s81_67, s81_68, s81_70, s81_71, s81_73, s81_74, s81_77, s81_80, s81_81, s81_84, s81_87, s81_88, s81_89, s81_90, s81_91, s81_92, s81_93, s81_95, s81_96, s81_97, s81_98, s81_101, s81_104, s81_105, s81_106, s81_107, s81_109, s81_111, s81_112, s81_113, s81_114, s81_117, s81_118, s81_121, s81_124, s81_125, s81_126, s81_127, s81_129, s81_130, s81_131, g0_2, g18_0, A19, g0_3, g28_2, A31, g28_1, A30, g18_4, A23, g0_1, g5_8, R14, AR14, g18_1, A20, g5_4, A10, g5_5, A11, az_ex, az_bk0, az_bk1, az_bkx, az_cat0, az_cati, az_catr, az_catl, az_vi, az_vr, az_bo0, az_bo1, az_boi, true_and, and_true, if_true, if_false, ne_eq, not_true_eq_false, not_false_eq_true, List.set_cons_zero, List.set_cons_succ, Nat.reduceAdd, Nat.reduceLeDiff, Nat.reduceEqDiff, ↓reduceIte, reduceCtorEq, Nat.reduceSub, Nat.reduceMul, Int32.reduceLT, Int32.reduceLE, Int32.reduceAdd, Int32.reduceMul, Int32.reduceSub, az_ne10, az_ne20, az_ne30, Nat.zero_le, az_q0_1, az_q0_2, az_q0_3, az_q0_4, az_q0_5, az_q0_6, az_q0_7, az_q0_8, az_q1_0, az_q1_2, az_q1_3, az_q1_4, az_q1_5, az_q1_6, az_q1_7, az_q1_8, az_q2_0, az_q2_1, az_q2_3, az_q2_4, az_q2_5, az_q2_6, az_q2_7, az_q2_8, az_q3_0, az_q3_1, az_q3_2, az_q3_4, az_q3_5, az_q3_6, az_q3_7, az_q3_8, az_q4_0, az_q4_1, az_q4_2, az_q4_3, az_q4_5, az_q4_6, az_q4_7, az_q4_8, az_q5_0, az_q5_1, az_q5_2, az_q5_3, az_q5_4, az_q5_6, az_q5_7, az_q5_8, az_q6_0, az_q6_1, az_q6_2, az_q6_3, az_q6_4, az_q6_5, az_q6_7, az_q6_8, az_q7_0, az_q7_1, az_q7_2, az_q7_3, az_q7_4, az_q7_5, az_q7_6, az_q7_8, az_q8_0, az_q8_1, az_q8_2, az_q8_3, az_q8_4, az_q8_5, az_q8_6, az_q8_7, az_z10, az_z60, az_z100, az_z1000, az_z1001, az_z10000, az_upe, e19, e30, r1, hch, ho, f1, f2, nI_clamp (show cd < 2 ^ 31 by omega), nI_clamp (show k < 2 ^ 31 by omega)]
      exact hg
  · unfold pEd at hK
    rw [not_or] at ho
    simp only [ho.1, ho.2, or_self, if_false] at hK
    simp (maxDischargeDepth := 7) only [C81, th81, s81_0, s81_1, s81_4, s81_7, s81_8, s81_9, s81_10, s81_11, s81_14, s81_17, s81_18, s81_19, s81_21, s81_22, s81_25, s81_28, s81_29, s81_30, s81_31, s81_32, s81_35, s81_38, s81_39, s81_40, s81_43, s81_44, s81_47, s81_50, s81_51, s81_52, s81_53, s81_58, s81_59, s81_62, s81_65, s81_66, s81_67, s81_68, s81_70, s81_71, s81_73, s81_74, s81_77, s81_80, s81_81, s81_84, s81_87, s81_88, s81_89, s81_90, s81_91, s81_92, s81_93, s81_95, s81_96, s81_97, s81_98, s81_101, s81_104, s81_105, s81_106, s81_107, s81_109, s81_111, s81_112, s81_113, s81_114, s81_117, s81_118, s81_121, s81_124, s81_125, s81_126, s81_127, s81_129, s81_130, s81_131, g0_2, g18_0, A19, g0_3, g28_2, A31, g28_1, A30, g18_4, A23, g0_1, g5_8, R14, AR14, g18_1, A20, g5_4, A10, g5_5, A11, az_ex, az_bk0, az_bk1, az_bkx, az_cat0, az_cati, az_catr, az_catl, az_vi, az_vr, az_bo0, az_bo1, az_boi, true_and, and_true, if_true, if_false, ne_eq, not_true_eq_false, not_false_eq_true, List.set_cons_zero, List.set_cons_succ, Nat.reduceAdd, Nat.reduceLeDiff, Nat.reduceEqDiff, ↓reduceIte, reduceCtorEq, Nat.reduceSub, Nat.reduceMul, Int32.reduceLT, Int32.reduceLE, Int32.reduceAdd, Int32.reduceMul, Int32.reduceSub, az_ne10, az_ne20, az_ne30, Nat.zero_le, az_q0_1, az_q0_2, az_q0_3, az_q0_4, az_q0_5, az_q0_6, az_q0_7, az_q0_8, az_q1_0, az_q1_2, az_q1_3, az_q1_4, az_q1_5, az_q1_6, az_q1_7, az_q1_8, az_q2_0, az_q2_1, az_q2_3, az_q2_4, az_q2_5, az_q2_6, az_q2_7, az_q2_8, az_q3_0, az_q3_1, az_q3_2, az_q3_4, az_q3_5, az_q3_6, az_q3_7, az_q3_8, az_q4_0, az_q4_1, az_q4_2, az_q4_3, az_q4_5, az_q4_6, az_q4_7, az_q4_8, az_q5_0, az_q5_1, az_q5_2, az_q5_3, az_q5_4, az_q5_6, az_q5_7, az_q5_8, az_q6_0, az_q6_1, az_q6_2, az_q6_3, az_q6_4, az_q6_5, az_q6_7, az_q6_8, az_q7_0, az_q7_1, az_q7_2, az_q7_3, az_q7_4, az_q7_5, az_q7_6, az_q7_8, az_q8_0, az_q8_1, az_q8_2, az_q8_3, az_q8_4, az_q8_5, az_q8_6, az_q8_7, az_z10, az_z60, az_z100, az_z1000, az_z1001, az_z10000, az_upe, e19, e30, r1, r4, hch, ho.1, ho.2, f1, f2, f3, nI_clamp (show cd < 2 ^ 31 by omega), nI_clamp (show k < 2 ^ 31 by omega), nI_clamp (show ch < 2 ^ 31 by omega)]
    refine hK _ ⟨by simp [az_upe, r1], ?_, by simp [az_upe, r3], by simp [az_upe, r4], ?_⟩
    · intro l hl c hc
      match l, hl with
      | 0, _ => simpa [az_upe] using r2 0 (by omega) c hc
      | 1, _ => simpa [az_upe] using r2 1 (by omega) c hc
      | 2, _ => simpa [az_upe] using r2 2 (by omega) c hc
    · intro a a1 a2 a3 a4 a5 a6 a7 a8
      rw [az_up_ne a6, az_up_ne a1]
      exact r5 a a1 a2 a3 a4 a5 a6 a7 a8
end
