/-! the reference finds the best price: its loops -/
def tb (v : Int32) (P : Prop) : Prop := (v = 1 ∧ P) ∨ (v = 0 ∧ ¬ P)
theorem tb_cg {v : Int32} {P Q : Prop} (h : tb v P) (e : P ↔ Q) : tb v Q := by
  rcases h with ⟨h1, h2⟩ | ⟨h1, h2⟩
  · exact Or.inl ⟨h1, e.mp h2⟩
  · exact Or.inr ⟨h1, fun q => h2 (e.mpr q)⟩
def rF (I I' : Nat → Nat → Int32) (R : Nat → Nat → Prop) (D p lo sz : Nat) : Prop := (∀ s, s < D → ∀ k, k ≤ p → tb (I' 176 (1001 * s + k)) (R s k)) ∧ (I' 152 29 = nI lo ∧ I' 152 30 = nI sz) ∧ (∀ k, k ≠ 29 → k ≠ 30 → I' 152 k = I 152 k) ∧ ∀ a, a ≠ 152 → a ≠ 176 → I' a = I a
theorem rF_cg {I I' : Nat → Nat → Int32} {R R' : Nat → Nat → Prop} {D p lo sz : Nat} (h : rF I I' R D p lo sz) (e : ∀ s, s < D → ∀ k, k ≤ p → (R s k ↔ R' s k)) : rF I I' R' D p lo sz :=
  ⟨fun s hs k hk => tb_cg (h.1 s hs k hk) (e s hs k hk), h.2⟩
theorem rF_cp {I I' A : Nat → Nat → Int32} {R : Nat → Nat → Prop} {D p lo sz ng : Nat} (h : rF I I' R D p lo sz) (hM : cpM I A ng) : cpM I' A ng := by
  obtain ⟨⟨m1, m2, m3, m4⟩, m5⟩ := hM
  obtain ⟨-, -, h3, h4⟩ := h
  exact ⟨⟨by rw [h4 172 (by decide) (by decide)]; exact m1, by rw [h4 173 (by decide) (by decide)]; exact m2, by rw [h4 174 (by decide) (by decide)]; exact m3, by rw [h4 175 (by decide) (by decide)]; exact m4⟩, by rw [h3 23 (by decide) (by decide)]; exact m5⟩
theorem fd_wr {a : Nat} {v : Nat → Int32} : ∀ m j (f : Nat → Int32), fd (fun j f => upd f (a + j) (v j)) m j f = fun i => if a + j ≤ i ∧ i < a + j + m then v (i - a) else f i := by
  intro m
  induction m with
  | zero => intro j f; funext k; rw [if_neg (by omega)]; rfl
  | succ m ih =>
    intro j f
    show fd (fun j f => upd f (a + j) (v j)) m (j + 1) (upd f (a + j) (v j)) = _
    rw [ih]
    funext k
    by_cases h1 : k = a + j
    · subst h1
      rw [if_neg (by omega), if_pos (by omega), upde, if_pos rfl]
      congr 1
      omega
    · by_cases h2 : a + (j + 1) ≤ k ∧ k < a + (j + 1) + m
      · rw [if_pos h2, if_pos (by omega)]
      · rw [if_neg h2, if_neg (by omega), upde, if_neg h1]
theorem sbb_lt : ∀ s, s < 64 → ∀ c, c < 6 → s.testBit c = true → sbb false s c < s := by decide +kernel
section
variable {xs : az_X} {d : Nat} {ng c z : Nat} {I I' A : Nat → Nat → Int32} {J : Nat → Nat → Int64} {K : az_O → Prop}
/-- the row of a set is cleared -/
theorem m108a {p s lo sz : Nat} {R : Nat → Nat → Prop} (hp : p ≤ 1000) (hs : s < 64) (hR : rF I I' R s p lo sz) (o5 o6 : Option Value) (hK : ∀ I'', rF I I'' (fun s' q => (s' < s ∧ R s' q) ∨ (s' = s ∧ s = 0 ∧ q = p)) (s + 1) p lo sz → ∀ o4, az_W xs d 108 67 [some (.ref 152), some (.int (nI p)), some (.int (nI s)), some (.int (nI (1001 * s))), o4, o5, o6] [] (az_S, I'', J, c, z) K) : az_W xs d 108 31 [some (.ref 152), some (.int (nI p)), some (.int (nI s)), some (.int (nI (1001 * s))), some (.int 0), o5, o6] [] (az_S, I', J, c, z) K := by
  have key := az_loopB (n := p + 1) (h := fun j f => upd f (1001 * s + j) (if s = 0 then (if j = p then 1 else 0) else 0)) (Inv := fun _ _ => True) (W := fun j f => az_W xs d 108 31 [some (.ref 152), some (.int (nI p)), some (.int (nI s)), some (.int (nI (1001 * s))), some (.int (nI j)), o5, o6] [] (az_S, az_set I' 176 f, J, c, z) K) (fun _ _ _ _ => trivial) ?_ (p + 1) 0 (I' 176) (Nat.zero_add _) trivial ?_
  · rw [az_set_self] at key
    exact key
  · intro j f hj _ hw
    have f1 : az_in (nI (1001 * s + j)) 64064 = true := by rw [az_in_nI (by omega)]; simp; omega
    have f2 : (nI p < nI j) = False := by rw [bz_lt (by omega) (by omega)]; simp; omega
    have f3 : nI (1001 * s) + nI j = nI (1001 * s + j) := bz_add _ _
    have f4 : (nI j = nI p) = (j = p) := bz_eq (by omega) (by omega)
    have f5 : (nI s = 0) = (s = 0) := bz_eq (k := 0) (by omega) (by omega)
    refine s108_31.mpr ?_
    by_cases h1 : s = 0
    · by_cases h2 : j = p
      · have f4t : (nI j = nI p) = True := by rw [f4]; exact eq_true h2
        have f5t : (nI s = 0) = True := by rw [f5]; exact eq_true h1
        rw [if_pos h1, if_pos h2] at hw
        simp (maxDischargeDepth := 7) only [C108, th108, s108_0, s108_1, s108_2, s108_5, s108_6, s108_7, s108_10, s108_11, s108_12, s108_13, s108_14, s108_15, s108_18, s108_19, s108_22, s108_25, s108_26, s108_27, s108_28, s108_29, s108_33, s108_34, s108_37, s108_38, s108_41, s108_42, s108_44, s108_45, s108_46, s108_49, s108_51, s108_52, s108_55, s108_56, s108_59, s108_60, s108_61, s108_64, s108_68, s108_70, s108_72, s108_73, s108_76, s108_79, s108_80, s108_81, s108_84, s108_87, s108_90, s108_91, s108_92, s108_94, s108_95, s108_96, s108_97, s108_98, s108_99, s108_101, s108_102, s108_105, s108_107, s108_108, s108_110, s108_112, s108_113, s108_116, s108_117, s108_119, s108_120, s108_121, s108_122, s108_123, s108_126, s108_127, s108_130, s108_132, s108_134, s108_135, s108_136, s108_139, s108_140, s108_143, s108_144, s108_145, s108_147, s108_149, s108_152, s108_153, s108_154, s108_155, s108_158, s108_161, s108_164, s108_167, s108_168, s108_170, s108_172, s108_173, s108_176, s108_179, s108_180, s108_183, s108_184, s108_186, s108_187, s108_188, s108_191, s108_193, s108_194, s108_197, s108_200, s108_201, s108_204, s108_205, s108_208, s108_211, s108_212, s108_214, s108_217, s108_218, s108_219, s108_222, s108_225, s108_228, s108_231, s108_234, s108_237, p152_29, p152_30, g152_23, g152_28, A176, cc106, g152_26, A174, cc105, g152_29, cc107, g152_30, az_ex, az_bk0, az_bk1, az_bkx, az_cat0, az_cati, az_catr, az_catl, az_vi, az_vr, az_bo0, az_bo1, az_boi, true_and, and_true, if_true, if_false, ne_eq, not_true_eq_false, not_false_eq_true, List.set_cons_zero, List.set_cons_succ, Nat.reduceAdd, Nat.reduceLeDiff, Nat.reduceEqDiff, ↓reduceIte, reduceCtorEq, Nat.reduceSub, Nat.reduceMul, Int32.reduceLT, Int32.reduceLE, Int32.reduceAdd, Int32.reduceMul, Int32.reduceSub, az_ne10, az_ne20, az_ne30, Nat.zero_le, az_q0_1, az_q0_2, az_q0_3, az_q0_4, az_q0_5, az_q0_6, az_q0_7, az_q0_8, az_q1_0, az_q1_2, az_q1_3, az_q1_4, az_q1_5, az_q1_6, az_q1_7, az_q1_8, az_q2_0, az_q2_1, az_q2_3, az_q2_4, az_q2_5, az_q2_6, az_q2_7, az_q2_8, az_q3_0, az_q3_1, az_q3_2, az_q3_4, az_q3_5, az_q3_6, az_q3_7, az_q3_8, az_q4_0, az_q4_1, az_q4_2, az_q4_3, az_q4_5, az_q4_6, az_q4_7, az_q4_8, az_q5_0, az_q5_1, az_q5_2, az_q5_3, az_q5_4, az_q5_6, az_q5_7, az_q5_8, az_q6_0, az_q6_1, az_q6_2, az_q6_3, az_q6_4, az_q6_5, az_q6_7, az_q6_8, az_q7_0, az_q7_1, az_q7_2, az_q7_3, az_q7_4, az_q7_5, az_q7_6, az_q7_8, az_q8_0, az_q8_1, az_q8_2, az_q8_3, az_q8_4, az_q8_5, az_q8_6, az_q8_7, az_z10, az_z60, az_z100, az_z1000, az_z1001, az_z10000, nar0, nar1, f1, f2, f3, f4t, f5t, nI_1, nI_clamp (show 1001 * s + j < 2 ^ 31 by omega), az_set_up, az_sete]
        exact hw
      · have f4t : (nI j = nI p) = False := by rw [f4]; exact eq_false h2
        have f5t : (nI s = 0) = True := by rw [f5]; exact eq_true h1
        rw [if_pos h1, if_neg h2] at hw
        simp (maxDischargeDepth := 7) only [C108, th108, s108_0, s108_1, s108_2, s108_5, s108_6, s108_7, s108_10, s108_11, s108_12, s108_13, s108_14, s108_15, s108_18, s108_19, s108_22, s108_25, s108_26, s108_27, s108_28, s108_29, s108_33, s108_34, s108_37, s108_38, s108_41, s108_42, s108_44, s108_45, s108_46, s108_49, s108_51, s108_52, s108_55, s108_56, s108_59, s108_60, s108_61, s108_64, s108_68, s108_70, s108_72, s108_73, s108_76, s108_79, s108_80, s108_81, s108_84, s108_87, s108_90, s108_91, s108_92, s108_94, s108_95, s108_96, s108_97, s108_98, s108_99, s108_101, s108_102, s108_105, s108_107, s108_108, s108_110, s108_112, s108_113, s108_116, s108_117, s108_119, s108_120, s108_121, s108_122, s108_123, s108_126, s108_127, s108_130, s108_132, s108_134, s108_135, s108_136, s108_139, s108_140, s108_143, s108_144, s108_145, s108_147, s108_149, s108_152, s108_153, s108_154, s108_155, s108_158, s108_161, s108_164, s108_167, s108_168, s108_170, s108_172, s108_173, s108_176, s108_179, s108_180, s108_183, s108_184, s108_186, s108_187, s108_188, s108_191, s108_193, s108_194, s108_197, s108_200, s108_201, s108_204, s108_205, s108_208, s108_211, s108_212, s108_214, s108_217, s108_218, s108_219, s108_222, s108_225, s108_228, s108_231, s108_234, s108_237, p152_29, p152_30, g152_23, g152_28, A176, cc106, g152_26, A174, cc105, g152_29, cc107, g152_30, az_ex, az_bk0, az_bk1, az_bkx, az_cat0, az_cati, az_catr, az_catl, az_vi, az_vr, az_bo0, az_bo1, az_boi, true_and, and_true, if_true, if_false, ne_eq, not_true_eq_false, not_false_eq_true, List.set_cons_zero, List.set_cons_succ, Nat.reduceAdd, Nat.reduceLeDiff, Nat.reduceEqDiff, ↓reduceIte, reduceCtorEq, Nat.reduceSub, Nat.reduceMul, Int32.reduceLT, Int32.reduceLE, Int32.reduceAdd, Int32.reduceMul, Int32.reduceSub, az_ne10, az_ne20, az_ne30, Nat.zero_le, az_q0_1, az_q0_2, az_q0_3, az_q0_4, az_q0_5, az_q0_6, az_q0_7, az_q0_8, az_q1_0, az_q1_2, az_q1_3, az_q1_4, az_q1_5, az_q1_6, az_q1_7, az_q1_8, az_q2_0, az_q2_1, az_q2_3, az_q2_4, az_q2_5, az_q2_6, az_q2_7, az_q2_8, az_q3_0, az_q3_1, az_q3_2, az_q3_4, az_q3_5, az_q3_6, az_q3_7, az_q3_8, az_q4_0, az_q4_1, az_q4_2, az_q4_3, az_q4_5, az_q4_6, az_q4_7, az_q4_8, az_q5_0, az_q5_1, az_q5_2, az_q5_3, az_q5_4, az_q5_6, az_q5_7, az_q5_8, az_q6_0, az_q6_1, az_q6_2, az_q6_3, az_q6_4, az_q6_5, az_q6_7, az_q6_8, az_q7_0, az_q7_1, az_q7_2, az_q7_3, az_q7_4, az_q7_5, az_q7_6, az_q7_8, az_q8_0, az_q8_1, az_q8_2, az_q8_3, az_q8_4, az_q8_5, az_q8_6, az_q8_7, az_z10, az_z60, az_z100, az_z1000, az_z1001, az_z10000, nar0, nar1, f1, f2, f3, f4t, f5t, nI_1, nI_clamp (show 1001 * s + j < 2 ^ 31 by omega), az_set_up, az_sete]
        exact hw
    · have f5t : (nI s = 0) = False := by rw [f5]; exact eq_false h1
      rw [if_neg h1] at hw
      simp (maxDischargeDepth := 7) only [C108, th108, s108_0, s108_1, s108_2, s108_5, s108_6, s108_7, s108_10, s108_11, s108_12, s108_13, s108_14, s108_15, s108_18, s108_19, s108_22, s108_25, s108_26, s108_27, s108_28, s108_29, s108_33, s108_34, s108_37, s108_38, s108_41, s108_42, s108_44, s108_45, s108_46, s108_49, s108_51, s108_52, s108_55, s108_56, s108_59, s108_60, s108_61, s108_64, s108_68, s108_70, s108_72, s108_73, s108_76, s108_79, s108_80, s108_81, s108_84, s108_87, s108_90, s108_91, s108_92, s108_94, s108_95, s108_96, s108_97, s108_98, s108_99, s108_101, s108_102, s108_105, s108_107, s108_108, s108_110, s108_112, s108_113, s108_116, s108_117, s108_119, s108_120, s108_121, s108_122, s108_123, s108_126, s108_127, s108_130, s108_132, s108_134, s108_135, s108_136, s108_139, s108_140, s108_143, s108_144, s108_145, s108_147, s108_149, s108_152, s108_153, s108_154, s108_155, s108_158, s108_161, s108_164, s108_167, s108_168, s108_170, s108_172, s108_173, s108_176, s108_179, s108_180, s108_183, s108_184, s108_186, s108_187, s108_188, s108_191, s108_193, s108_194, s108_197, s108_200, s108_201, s108_204, s108_205, s108_208, s108_211, s108_212, s108_214, s108_217, s108_218, s108_219, s108_222, s108_225, s108_228, s108_231, s108_234, s108_237, p152_29, p152_30, g152_23, g152_28, A176, cc106, g152_26, A174, cc105, g152_29, cc107, g152_30, az_ex, az_bk0, az_bk1, az_bkx, az_cat0, az_cati, az_catr, az_catl, az_vi, az_vr, az_bo0, az_bo1, az_boi, true_and, and_true, if_true, if_false, ne_eq, not_true_eq_false, not_false_eq_true, List.set_cons_zero, List.set_cons_succ, Nat.reduceAdd, Nat.reduceLeDiff, Nat.reduceEqDiff, ↓reduceIte, reduceCtorEq, Nat.reduceSub, Nat.reduceMul, Int32.reduceLT, Int32.reduceLE, Int32.reduceAdd, Int32.reduceMul, Int32.reduceSub, az_ne10, az_ne20, az_ne30, Nat.zero_le, az_q0_1, az_q0_2, az_q0_3, az_q0_4, az_q0_5, az_q0_6, az_q0_7, az_q0_8, az_q1_0, az_q1_2, az_q1_3, az_q1_4, az_q1_5, az_q1_6, az_q1_7, az_q1_8, az_q2_0, az_q2_1, az_q2_3, az_q2_4, az_q2_5, az_q2_6, az_q2_7, az_q2_8, az_q3_0, az_q3_1, az_q3_2, az_q3_4, az_q3_5, az_q3_6, az_q3_7, az_q3_8, az_q4_0, az_q4_1, az_q4_2, az_q4_3, az_q4_5, az_q4_6, az_q4_7, az_q4_8, az_q5_0, az_q5_1, az_q5_2, az_q5_3, az_q5_4, az_q5_6, az_q5_7, az_q5_8, az_q6_0, az_q6_1, az_q6_2, az_q6_3, az_q6_4, az_q6_5, az_q6_7, az_q6_8, az_q7_0, az_q7_1, az_q7_2, az_q7_3, az_q7_4, az_q7_5, az_q7_6, az_q7_8, az_q8_0, az_q8_1, az_q8_2, az_q8_3, az_q8_4, az_q8_5, az_q8_6, az_q8_7, az_z10, az_z60, az_z100, az_z1000, az_z1001, az_z10000, nar0, nar1, f1, f2, f3, f5t, nI_1, nI_clamp (show 1001 * s + j < 2 ^ 31 by omega), az_set_up, az_sete]
      exact hw
  · have f3 : (nI p < nI (p + 1)) = True := by rw [bz_lt (by omega) (by omega)]; simp
    refine s108_31.mpr ?_
    simp (maxDischargeDepth := 7) only [C108, th108, s108_0, s108_1, s108_2, s108_5, s108_6, s108_7, s108_10, s108_11, s108_12, s108_13, s108_14, s108_15, s108_18, s108_19, s108_22, s108_25, s108_26, s108_27, s108_28, s108_29, s108_33, s108_34, s108_37, s108_38, s108_41, s108_42, s108_44, s108_45, s108_46, s108_49, s108_51, s108_52, s108_55, s108_56, s108_59, s108_60, s108_61, s108_64, s108_68, s108_70, s108_72, s108_73, s108_76, s108_79, s108_80, s108_81, s108_84, s108_87, s108_90, s108_91, s108_92, s108_94, s108_95, s108_96, s108_97, s108_98, s108_99, s108_101, s108_102, s108_105, s108_107, s108_108, s108_110, s108_112, s108_113, s108_116, s108_117, s108_119, s108_120, s108_121, s108_122, s108_123, s108_126, s108_127, s108_130, s108_132, s108_134, s108_135, s108_136, s108_139, s108_140, s108_143, s108_144, s108_145, s108_147, s108_149, s108_152, s108_153, s108_154, s108_155, s108_158, s108_161, s108_164, s108_167, s108_168, s108_170, s108_172, s108_173, s108_176, s108_179, s108_180, s108_183, s108_184, s108_186, s108_187, s108_188, s108_191, s108_193, s108_194, s108_197, s108_200, s108_201, s108_204, s108_205, s108_208, s108_211, s108_212, s108_214, s108_217, s108_218, s108_219, s108_222, s108_225, s108_228, s108_231, s108_234, s108_237, p152_29, p152_30, g152_23, g152_28, A176, cc106, g152_26, A174, cc105, g152_29, cc107, g152_30, az_ex, az_bk0, az_bk1, az_bkx, az_cat0, az_cati, az_catr, az_catl, az_vi, az_vr, az_bo0, az_bo1, az_boi, true_and, and_true, if_true, if_false, ne_eq, not_true_eq_false, not_false_eq_true, List.set_cons_zero, List.set_cons_succ, Nat.reduceAdd, Nat.reduceLeDiff, Nat.reduceEqDiff, ↓reduceIte, reduceCtorEq, Nat.reduceSub, Nat.reduceMul, Int32.reduceLT, Int32.reduceLE, Int32.reduceAdd, Int32.reduceMul, Int32.reduceSub, az_ne10, az_ne20, az_ne30, Nat.zero_le, f3]
    refine hK _ ⟨fun s' hs' k hk => ?_, ?_, ?_, ?_⟩ _
    · rw [az_sete, if_pos rfl, fd_wr]
      dsimp only
      by_cases h1 : s' = s
      · rw [if_pos (by omega), h1, show 1001 * s + k - 1001 * s = k by omega]
        by_cases h2 : s = 0
        · rw [if_pos h2]
          by_cases h3 : k = p
          · rw [if_pos h3]; exact Or.inl ⟨rfl, Or.inr ⟨rfl, h2, h3⟩⟩
          · rw [if_neg h3]; exact Or.inr ⟨rfl, by omega⟩
        · rw [if_neg h2]; exact Or.inr ⟨rfl, by omega⟩
      · rw [if_neg (by omega)]
        exact tb_cg (hR.1 s' (by omega) k hk) ⟨fun h => Or.inl ⟨by omega, h⟩, fun h => by
          rcases h with h | h
          · exact h.2
          · exact absurd h.1 h1⟩
    · rw [az_sete, if_neg (by decide)]; exact hR.2.1
    · intro k h1 h2
      rw [az_sete, if_neg (by decide)]
      exact hR.2.2.1 k h1 h2
    · intro a h1 h2
      rw [az_sete, if_neg h2]
      exact hR.2.2.2 a h1 h2
/-- one campaign comes last -/
theorem m108i {p s cp lo sz : Nat} {R : Nat → Nat → Prop} (hM : cpM I A ng) (hv : az_vcp ng A) (hn : ng ≤ 6) (hp : p ≤ 1000) (hs : s < 64) (hc : cp < ng) (hbit : s.testBit cp = true) (hls : lsI A cp ≤ p + 1) (hR : rF I I' R (s + 1) p lo sz) (hK : ∀ I'', rF I I'' (fun s' q => R s' q ∨ (s' = s ∧ ∃ k, lsI A cp ≤ k ∧ k < p + 1 ∧ R (sbb false s cp) k ∧ q = apI A cp k)) (s + 1) p lo sz → ∀ o6, az_W xs (d + 1) 108 161 [some (.ref 152), some (.int (nI p)), some (.int (nI s)), some (.int (nI (1001 * s))), some (.int (nI cp)), some (.int (nI (1001 * sbb false s cp))), o6] [] (az_S, I'', J, c, z) K) : az_W xs (d + 1) 108 110 [some (.ref 152), some (.int (nI p)), some (.int (nI s)), some (.int (nI (1001 * s))), some (.int (nI cp)), some (.int (nI (1001 * sbb false s cp))), some (.int (nI (lsI A cp)))] [] (az_S, I', J, c, z) K := by
  have hsb := sbb_lt s hs cp (by omega) hbit
  have key := az_loopB (α := Unit) (n := p + 1) (h := fun _ _ => ()) (Inv := fun j _ => lsI A cp ≤ j) (W := fun j _ => ∀ I', rF I I' (fun s' q => R s' q ∨ (s' = s ∧ ∃ k, lsI A cp ≤ k ∧ k < j ∧ R (sbb false s cp) k ∧ q = apI A cp k)) (s + 1) p lo sz → az_W xs (d + 1) 108 110 [some (.ref 152), some (.int (nI p)), some (.int (nI s)), some (.int (nI (1001 * s))), some (.int (nI cp)), some (.int (nI (1001 * sbb false s cp))), some (.int (nI j))] [] (az_S, I', J, c, z) K) (fun j _ hj hi => by omega) ?_ (p + 1 - lsI A cp) (lsI A cp) () (by omega) (Nat.le_refl _) ?_
  · refine key I' (rF_cg hR fun s' hs' k hk => ⟨fun h => Or.inl h, fun h => ?_⟩)
    rcases h with h | ⟨-, k', h1, h2, -⟩
    · exact h
    · omega
  · intro j _ hj hi hw I' hR
    have hM' := rF_cp hR hM
    have hap := apI_le (I := A) cp j
    have f1 : az_in (nI (1001 * sbb false s cp + j)) 64064 = true := by rw [az_in_nI (by omega)]; simp; omega
    have f1' : az_in (nI (1001 * s + apI A cp j)) 64064 = true := by rw [az_in_nI (by omega)]; simp; omega
    have f2 : (nI p < nI j) = False := by rw [bz_lt (by omega) (by omega)]; simp; omega
    have f3 : nI (1001 * sbb false s cp) + nI j = nI (1001 * sbb false s cp + j) := bz_add _ _
    have f3' : nI (1001 * s) + nI (apI A cp j) = nI (1001 * s + apI A cp j) := bz_add _ _
    have f4 := bq1 hs (show cp < 6 by omega)
    rw [hbit] at f4
    simp only [if_true] at f4
    have hrow : ∀ q, (R (sbb false s cp) q ∨ (sbb false s cp = s ∧ ∃ k, lsI A cp ≤ k ∧ k < j ∧ R (sbb false s cp) k ∧ q = apI A cp k)) ↔ R (sbb false s cp) q := fun q => ⟨fun h => by
      rcases h with h | h
      · exact h
      · omega, Or.inl⟩
    refine s108_110.mpr ?_
    rcases tb_cg (hR.1 (sbb false s cp) (by omega) j (by omega)) (hrow j) with ⟨h1, h2⟩ | ⟨h1, h2⟩
    · simp (maxDischargeDepth := 7) only [C108, th108, s108_0, s108_1, s108_2, s108_5, s108_6, s108_7, s108_10, s108_11, s108_12, s108_13, s108_14, s108_15, s108_18, s108_19, s108_22, s108_25, s108_26, s108_27, s108_28, s108_29, s108_31, s108_33, s108_34, s108_37, s108_38, s108_41, s108_42, s108_44, s108_45, s108_46, s108_49, s108_51, s108_52, s108_55, s108_56, s108_59, s108_60, s108_61, s108_64, s108_67, s108_68, s108_70, s108_72, s108_73, s108_76, s108_79, s108_80, s108_81, s108_84, s108_87, s108_90, s108_91, s108_92, s108_94, s108_95, s108_96, s108_97, s108_98, s108_99, s108_101, s108_102, s108_105, s108_107, s108_108, s108_112, s108_113, s108_116, s108_117, s108_119, s108_120, s108_121, s108_122, s108_123, s108_126, s108_127, s108_130, s108_132, s108_134, s108_135, s108_136, s108_139, s108_140, s108_143, s108_144, s108_145, s108_147, s108_149, s108_152, s108_153, s108_154, s108_155, s108_158, s108_164, s108_167, s108_168, s108_170, s108_172, s108_173, s108_176, s108_179, s108_180, s108_183, s108_184, s108_186, s108_187, s108_188, s108_191, s108_193, s108_194, s108_197, s108_200, s108_201, s108_204, s108_205, s108_208, s108_211, s108_212, s108_214, s108_217, s108_218, s108_219, s108_222, s108_225, s108_228, s108_231, s108_234, s108_237, p152_29, p152_30, g152_23, g152_28, A176, cc106, g152_26, A174, cc105, g152_29, cc107, g152_30, az_ex, az_bk0, az_bk1, az_bkx, az_cat0, az_cati, az_catr, az_catl, az_vi, az_vr, az_bo0, az_bo1, az_boi, true_and, and_true, if_true, if_false, ne_eq, not_true_eq_false, not_false_eq_true, List.set_cons_zero, List.set_cons_succ, Nat.reduceAdd, Nat.reduceLeDiff, Nat.reduceEqDiff, ↓reduceIte, reduceCtorEq, Nat.reduceSub, Nat.reduceMul, Int32.reduceLT, Int32.reduceLE, Int32.reduceAdd, Int32.reduceMul, Int32.reduceSub, az_ne10, az_ne20, az_ne30, Nat.zero_le, az_q0_1, az_q0_2, az_q0_3, az_q0_4, az_q0_5, az_q0_6, az_q0_7, az_q0_8, az_q1_0, az_q1_2, az_q1_3, az_q1_4, az_q1_5, az_q1_6, az_q1_7, az_q1_8, az_q2_0, az_q2_1, az_q2_3, az_q2_4, az_q2_5, az_q2_6, az_q2_7, az_q2_8, az_q3_0, az_q3_1, az_q3_2, az_q3_4, az_q3_5, az_q3_6, az_q3_7, az_q3_8, az_q4_0, az_q4_1, az_q4_2, az_q4_3, az_q4_5, az_q4_6, az_q4_7, az_q4_8, az_q5_0, az_q5_1, az_q5_2, az_q5_3, az_q5_4, az_q5_6, az_q5_7, az_q5_8, az_q6_0, az_q6_1, az_q6_2, az_q6_3, az_q6_4, az_q6_5, az_q6_7, az_q6_8, az_q7_0, az_q7_1, az_q7_2, az_q7_3, az_q7_4, az_q7_5, az_q7_6, az_q7_8, az_q8_0, az_q8_1, az_q8_2, az_q8_3, az_q8_4, az_q8_5, az_q8_6, az_q8_7, az_z10, az_z60, az_z100, az_z1000, az_z1001, az_z10000, nar1, f1, f1', f2, f3, f3', f4, h1, r105 hM' hv hn hc (show j < 1024 by omega), nI_1, nI_clamp (show 1001 * sbb false s cp + j < 2 ^ 31 by omega), nI_clamp (show 1001 * s + apI A cp j < 2 ^ 31 by omega)]
      refine hw _ ⟨fun s' hs' k hk => ?_, ?_, ?_, ?_⟩
      · rw [az_upe, if_pos rfl, upde]
        by_cases h3 : s' = s ∧ k = apI A cp j
        · rw [if_pos (by omega)]
          exact Or.inl ⟨rfl, Or.inr ⟨h3.1, j, hi, by omega, h2, h3.2⟩⟩
        · rw [if_neg (by omega)]
          refine tb_cg (hR.1 s' hs' k hk) ⟨fun h => ?_, fun h => ?_⟩
          · rcases h with h | ⟨h4, k', h5, h6, h7, h8⟩
            · exact Or.inl h
            · exact Or.inr ⟨h4, k', h5, by omega, h7, h8⟩
          · rcases h with h | ⟨h4, k', h5, h6, h7, h8⟩
            · exact Or.inl h
            · refine Or.inr ⟨h4, k', h5, ?_, h7, h8⟩
              by_cases h9 : k' = j
              · exact absurd ⟨h4, by rw [h8, h9]⟩ h3
              · omega
      · rw [az_up_ne (by decide)]; exact hR.2.1
      · intro k h3 h4
        rw [az_up_ne (by decide)]
        exact hR.2.2.1 k h3 h4
      · intro a h3 h4
        rw [az_up_ne h4]
        exact hR.2.2.2 a h3 h4
    · simp (maxDischargeDepth := 7) only [C108, th108, s108_0, s108_1, s108_2, s108_5, s108_6, s108_7, s108_10, s108_11, s108_12, s108_13, s108_14, s108_15, s108_18, s108_19, s108_22, s108_25, s108_26, s108_27, s108_28, s108_29, s108_31, s108_33, s108_34, s108_37, s108_38, s108_41, s108_42, s108_44, s108_45, s108_46, s108_49, s108_51, s108_52, s108_55, s108_56, s108_59, s108_60, s108_61, s108_64, s108_67, s108_68, s108_70, s108_72, s108_73, s108_76, s108_79, s108_80, s108_81, s108_84, s108_87, s108_90, s108_91, s108_92, s108_94, s108_95, s108_96, s108_97, s108_98, s108_99, s108_101, s108_102, s108_105, s108_107, s108_108, s108_112, s108_113, s108_116, s108_117, s108_119, s108_120, s108_121, s108_122, s108_123, s108_126, s108_127, s108_130, s108_132, s108_134, s108_135, s108_136, s108_139, s108_140, s108_143, s108_144, s108_145, s108_147, s108_149, s108_152, s108_153, s108_154, s108_155, s108_158, s108_164, s108_167, s108_168, s108_170, s108_172, s108_173, s108_176, s108_179, s108_180, s108_183, s108_184, s108_186, s108_187, s108_188, s108_191, s108_193, s108_194, s108_197, s108_200, s108_201, s108_204, s108_205, s108_208, s108_211, s108_212, s108_214, s108_217, s108_218, s108_219, s108_222, s108_225, s108_228, s108_231, s108_234, s108_237, p152_29, p152_30, g152_23, g152_28, A176, cc106, g152_26, A174, cc105, g152_29, cc107, g152_30, az_ex, az_bk0, az_bk1, az_bkx, az_cat0, az_cati, az_catr, az_catl, az_vi, az_vr, az_bo0, az_bo1, az_boi, true_and, and_true, if_true, if_false, ne_eq, not_true_eq_false, not_false_eq_true, List.set_cons_zero, List.set_cons_succ, Nat.reduceAdd, Nat.reduceLeDiff, Nat.reduceEqDiff, ↓reduceIte, reduceCtorEq, Nat.reduceSub, Nat.reduceMul, Int32.reduceLT, Int32.reduceLE, Int32.reduceAdd, Int32.reduceMul, Int32.reduceSub, az_ne10, az_ne20, az_ne30, Nat.zero_le, az_q0_1, az_q0_2, az_q0_3, az_q0_4, az_q0_5, az_q0_6, az_q0_7, az_q0_8, az_q1_0, az_q1_2, az_q1_3, az_q1_4, az_q1_5, az_q1_6, az_q1_7, az_q1_8, az_q2_0, az_q2_1, az_q2_3, az_q2_4, az_q2_5, az_q2_6, az_q2_7, az_q2_8, az_q3_0, az_q3_1, az_q3_2, az_q3_4, az_q3_5, az_q3_6, az_q3_7, az_q3_8, az_q4_0, az_q4_1, az_q4_2, az_q4_3, az_q4_5, az_q4_6, az_q4_7, az_q4_8, az_q5_0, az_q5_1, az_q5_2, az_q5_3, az_q5_4, az_q5_6, az_q5_7, az_q5_8, az_q6_0, az_q6_1, az_q6_2, az_q6_3, az_q6_4, az_q6_5, az_q6_7, az_q6_8, az_q7_0, az_q7_1, az_q7_2, az_q7_3, az_q7_4, az_q7_5, az_q7_6, az_q7_8, az_q8_0, az_q8_1, az_q8_2, az_q8_3, az_q8_4, az_q8_5, az_q8_6, az_q8_7, az_z10, az_z60, az_z100, az_z1000, az_z1001, az_z10000, nar1, f1, f2, f3, f4, h1, nI_1, nI_clamp (show 1001 * sbb false s cp + j < 2 ^ 31 by omega)]
      refine hw _ (rF_cg hR fun s' hs' k hk => ⟨fun h => ?_, fun h => ?_⟩)
      · rcases h with h | ⟨h4, k', h5, h6, h7, h8⟩
        · exact Or.inl h
        · exact Or.inr ⟨h4, k', h5, by omega, h7, h8⟩
      · rcases h with h | ⟨h4, k', h5, h6, h7, h8⟩
        · exact Or.inl h
        · refine Or.inr ⟨h4, k', h5, ?_, h7, h8⟩
          by_cases h9 : k' = j
          · rw [h9] at h7; exact absurd h7 h2
          · omega
  · intro I' hR
    have f3 : (nI p < nI (p + 1)) = True := by rw [bz_lt (by omega) (by omega)]; simp
    refine s108_110.mpr ?_
    simp (maxDischargeDepth := 7) only [C108, th108, s108_0, s108_1, s108_2, s108_5, s108_6, s108_7, s108_10, s108_11, s108_12, s108_13, s108_14, s108_15, s108_18, s108_19, s108_22, s108_25, s108_26, s108_27, s108_28, s108_29, s108_31, s108_33, s108_34, s108_37, s108_38, s108_41, s108_42, s108_44, s108_45, s108_46, s108_49, s108_51, s108_52, s108_55, s108_56, s108_59, s108_60, s108_61, s108_64, s108_67, s108_68, s108_70, s108_72, s108_73, s108_76, s108_79, s108_80, s108_81, s108_84, s108_87, s108_90, s108_91, s108_92, s108_94, s108_95, s108_96, s108_97, s108_98, s108_99, s108_101, s108_102, s108_105, s108_107, s108_108, s108_112, s108_113, s108_116, s108_117, s108_119, s108_120, s108_121, s108_122, s108_123, s108_126, s108_127, s108_130, s108_132, s108_134, s108_135, s108_136, s108_139, s108_140, s108_143, s108_144, s108_145, s108_147, s108_149, s108_152, s108_153, s108_154, s108_155, s108_158, s108_164, s108_167, s108_168, s108_170, s108_172, s108_173, s108_176, s108_179, s108_180, s108_183, s108_184, s108_186, s108_187, s108_188, s108_191, s108_193, s108_194, s108_197, s108_200, s108_201, s108_204, s108_205, s108_208, s108_211, s108_212, s108_214, s108_217, s108_218, s108_219, s108_222, s108_225, s108_228, s108_231, s108_234, s108_237, p152_29, p152_30, g152_23, g152_28, A176, cc106, g152_26, A174, cc105, g152_29, cc107, g152_30, az_ex, az_bk0, az_bk1, az_bkx, az_cat0, az_cati, az_catr, az_catl, az_vi, az_vr, az_bo0, az_bo1, az_boi, true_and, and_true, if_true, if_false, ne_eq, not_true_eq_false, not_false_eq_true, List.set_cons_zero, List.set_cons_succ, Nat.reduceAdd, Nat.reduceLeDiff, Nat.reduceEqDiff, ↓reduceIte, reduceCtorEq, Nat.reduceSub, Nat.reduceMul, Int32.reduceLT, Int32.reduceLE, Int32.reduceAdd, Int32.reduceMul, Int32.reduceSub, az_ne10, az_ne20, az_ne30, Nat.zero_le, f3]
    exact hK _ hR _
end
