/-! a payment is made: the class -/
theorem fd_cp {v : Nat → Int32} : ∀ m j (f : Nat → Int32), fd (fun j f => upd f j (v j)) m j f = fun k => if j ≤ k ∧ k < j + m then v k else f k := by
  intro m
  induction m with
  | zero => intro j f; funext k; rw [if_neg (by omega)]; rfl
  | succ m ih =>
    intro j f
    show fd (fun j f => upd f j (v j)) m (j + 1) (upd f j (v j)) = _
    rw [ih]
    funext k
    by_cases h1 : k = j
    · subst h1
      rw [if_neg (by omega), if_pos (by omega), upde, if_pos rfl]
    · by_cases h2 : j + 1 ≤ k ∧ k < j + 1 + m
      · rw [if_pos h2, if_pos (by omega)]
      · rw [if_neg h2, if_neg (by omega), upde, if_neg h1]
section
variable {xs : az_X} {d : Nat} {nl np c z : Nat} {I I' : Nat → Nat → Int32} {J : Nat → Nat → Int64} {K : az_O → Prop}
theorem c34 {cd cost mo : Int32} (hnp : np < 40) (h5 : I 106 5 = nI np) (hK : ∀ I', (I' 106 5 = nI (np + 1) ∧ I' 107 = upd (I 107) np cd ∧ I' 108 = upd (I 108) np cost ∧ I' 109 = upd (I 109) np cost ∧ I' 110 = upd (I 110) np mo) → (I' (112 + np) = fun j => if j < 60 then I 35 j else I (112 + np) j) → (∀ a, a ≠ 106 → a ≠ 107 → a ≠ 108 → a ≠ 109 → a ≠ 110 → a ≠ 112 + np → I' a = I a) → K (0, some (.int (nI np)), (az_S, I', J, c, z))) : az_C xs (d + 1) 34 [.ref 106, .int cd, .int cost, .int mo, .ref 35] (az_S, I, J, c, z) K := by
  have f1 : az_in (nI np) 40 = true := by rw [az_in_nI (by omega)]; simp; omega
  have f9 : (35 = 112 + np) = False := by simp; omega
  have n60 : ((60 : Int32)) = nI 60 := rfl
  obtain ⟨I1, hI1⟩ : ∃ q, q = az_up (az_up (az_up (az_up (az_up I 106 5 (nI (np + 1))) 107 np cd) 108 np cost) 109 np cost) 110 np mo := ⟨_, rfl⟩
  have g35 : I1 35 = I 35 := by rw [hI1]; simp [az_upe]
  have key := az_loopB (n := 60) (h := fun j f => upd f j (I 35 j)) (Inv := fun _ _ => True) (W := fun j f => az_W xs d 34 51 [some (.ref 106), some (.int cd), some (.int cost), some (.int mo), some (.ref 35), some (.int (nI np)), some (.int (nI j))] [] (az_S, az_set I1 (112 + np) f, J, c, z) K) (fun _ _ _ _ => trivial) ?_ 60 0 (I1 (112 + np)) (by omega) trivial ?_
  · simp (maxDischargeDepth := 7) only [C34, th34, s34_0, s34_1, s34_4, s34_6, s34_7, s34_8, s34_11, s34_12, s34_13, s34_16, s34_17, s34_20, s34_22, s34_23, s34_24, s34_25, s34_28, s34_30, s34_31, s34_32, s34_33, s34_36, s34_38, s34_39, s34_40, s34_41, s34_44, s34_46, s34_47, s34_48, s34_49, s34_53, s34_55, s34_58, s34_59, s34_62, s34_64, s34_65, s34_67, s34_69, s34_71, s34_72, s34_73, s34_76, s34_79, s34_81, g106_5, p106_5, g106_0, A107, g106_1, A108, g106_2, A109, g106_3, A110, g106_4, R111, AR111, az_ex, az_bk0, az_bk1, az_bkx, az_cat0, az_cati, az_catr, az_catl, az_vi, az_vr, az_bo0, az_bo1, az_boi, true_and, and_true, if_true, if_false, ne_eq, not_true_eq_false, not_false_eq_true, List.set_cons_zero, List.set_cons_succ, Nat.reduceAdd, Nat.reduceLeDiff, Nat.reduceEqDiff, ↓reduceIte, reduceCtorEq, Nat.reduceSub, Nat.reduceMul, Int32.reduceLT, Int32.reduceLE, Int32.reduceAdd, Int32.reduceMul, Int32.reduceSub, az_ne10, az_ne20, az_ne30, Nat.zero_le, h5, f1, nI_1, az_upe, upde, nI_clamp (show np < 2 ^ 31 by omega)]
    rw [az_set_self] at key
    rw [← hI1]
    exact key
  · intro j f hj _ hw
    have f2 : az_in (nI j) 60 = true := by rw [az_in_nI (by omega)]; simp; omega
    have f3 : ((60 : Int32) ≤ nI j) = False := by rw [n60, bz_le (by omega) (by omega)]; simp; omega
    refine s34_51.mpr ?_
    simp (maxDischargeDepth := 7) only [C34, th34, s34_0, s34_1, s34_4, s34_6, s34_7, s34_8, s34_11, s34_12, s34_13, s34_16, s34_17, s34_20, s34_22, s34_23, s34_24, s34_25, s34_28, s34_30, s34_31, s34_32, s34_33, s34_36, s34_38, s34_39, s34_40, s34_41, s34_44, s34_46, s34_47, s34_48, s34_49, s34_53, s34_55, s34_58, s34_59, s34_62, s34_64, s34_65, s34_67, s34_69, s34_71, s34_72, s34_73, s34_76, s34_79, s34_81, g106_5, p106_5, g106_0, A107, g106_1, A108, g106_2, A109, g106_3, A110, g106_4, R111, AR111, az_ex, az_bk0, az_bk1, az_bkx, az_cat0, az_cati, az_catr, az_catl, az_vi, az_vr, az_bo0, az_bo1, az_boi, true_and, and_true, if_true, if_false, ne_eq, not_true_eq_false, not_false_eq_true, List.set_cons_zero, List.set_cons_succ, Nat.reduceAdd, Nat.reduceLeDiff, Nat.reduceEqDiff, ↓reduceIte, reduceCtorEq, Nat.reduceSub, Nat.reduceMul, Int32.reduceLT, Int32.reduceLE, Int32.reduceAdd, Int32.reduceMul, Int32.reduceSub, az_ne10, az_ne20, az_ne30, Nat.zero_le, az_q0_1, az_q0_2, az_q0_3, az_q0_4, az_q0_5, az_q0_6, az_q0_7, az_q0_8, az_q1_0, az_q1_2, az_q1_3, az_q1_4, az_q1_5, az_q1_6, az_q1_7, az_q1_8, az_q2_0, az_q2_1, az_q2_3, az_q2_4, az_q2_5, az_q2_6, az_q2_7, az_q2_8, az_q3_0, az_q3_1, az_q3_2, az_q3_4, az_q3_5, az_q3_6, az_q3_7, az_q3_8, az_q4_0, az_q4_1, az_q4_2, az_q4_3, az_q4_5, az_q4_6, az_q4_7, az_q4_8, az_q5_0, az_q5_1, az_q5_2, az_q5_3, az_q5_4, az_q5_6, az_q5_7, az_q5_8, az_q6_0, az_q6_1, az_q6_2, az_q6_3, az_q6_4, az_q6_5, az_q6_7, az_q6_8, az_q7_0, az_q7_1, az_q7_2, az_q7_3, az_q7_4, az_q7_5, az_q7_6, az_q7_8, az_q8_0, az_q8_1, az_q8_2, az_q8_3, az_q8_4, az_q8_5, az_q8_6, az_q8_7, az_z10, az_z60, az_z100, az_z1000, az_z1001, az_z10000, f1, f2, f3, f9, g35, A35, R111, AR111 hnp, az_sete, az_set_up, nI_1, nI_clamp (show np < 2 ^ 31 by omega), nI_clamp (show j < 2 ^ 31 by omega)]
    exact hw
  · have f3 : ((60 : Int32) ≤ nI 60) = True := by decide
    refine s34_51.mpr ?_
    simp (maxDischargeDepth := 7) only [C34, th34, s34_0, s34_1, s34_4, s34_6, s34_7, s34_8, s34_11, s34_12, s34_13, s34_16, s34_17, s34_20, s34_22, s34_23, s34_24, s34_25, s34_28, s34_30, s34_31, s34_32, s34_33, s34_36, s34_38, s34_39, s34_40, s34_41, s34_44, s34_46, s34_47, s34_48, s34_49, s34_53, s34_55, s34_58, s34_59, s34_62, s34_64, s34_65, s34_67, s34_69, s34_71, s34_72, s34_73, s34_76, s34_79, s34_81, g106_5, p106_5, g106_0, A107, g106_1, A108, g106_2, A109, g106_3, A110, g106_4, R111, AR111, az_ex, az_bk0, az_bk1, az_bkx, az_cat0, az_cati, az_catr, az_catl, az_vi, az_vr, az_bo0, az_bo1, az_boi, true_and, and_true, if_true, if_false, ne_eq, not_true_eq_false, not_false_eq_true, List.set_cons_zero, List.set_cons_succ, Nat.reduceAdd, Nat.reduceLeDiff, Nat.reduceEqDiff, ↓reduceIte, reduceCtorEq, Nat.reduceSub, Nat.reduceMul, Int32.reduceLT, Int32.reduceLE, Int32.reduceAdd, Int32.reduceMul, Int32.reduceSub, az_ne10, az_ne20, az_ne30, Nat.zero_le, az_q0_1, az_q0_2, az_q0_3, az_q0_4, az_q0_5, az_q0_6, az_q0_7, az_q0_8, az_q1_0, az_q1_2, az_q1_3, az_q1_4, az_q1_5, az_q1_6, az_q1_7, az_q1_8, az_q2_0, az_q2_1, az_q2_3, az_q2_4, az_q2_5, az_q2_6, az_q2_7, az_q2_8, az_q3_0, az_q3_1, az_q3_2, az_q3_4, az_q3_5, az_q3_6, az_q3_7, az_q3_8, az_q4_0, az_q4_1, az_q4_2, az_q4_3, az_q4_5, az_q4_6, az_q4_7, az_q4_8, az_q5_0, az_q5_1, az_q5_2, az_q5_3, az_q5_4, az_q5_6, az_q5_7, az_q5_8, az_q6_0, az_q6_1, az_q6_2, az_q6_3, az_q6_4, az_q6_5, az_q6_7, az_q6_8, az_q7_0, az_q7_1, az_q7_2, az_q7_3, az_q7_4, az_q7_5, az_q7_6, az_q7_8, az_q8_0, az_q8_1, az_q8_2, az_q8_3, az_q8_4, az_q8_5, az_q8_6, az_q8_7, az_z10, az_z60, az_z100, az_z1000, az_z1001, az_z10000, f3]
    rw [fd_cp]
    refine hK _ ⟨?_, ?_, ?_, ?_, ?_⟩ ?_ ?_
    · rw [az_set_ne (by omega), hI1]; simp [az_upe, upde]
    · rw [az_set_ne (by omega), hI1]; simp [az_upe]
    · rw [az_set_ne (by omega), hI1]; simp [az_upe]
    · rw [az_set_ne (by omega), hI1]; simp [az_upe]
    · rw [az_set_ne (by omega), hI1]; simp [az_upe]
    · rw [az_sete, if_pos rfl]
      funext k
      have e : I1 (112 + np) = I (112 + np) := by rw [hI1, az_up_ne (by omega), az_up_ne (by omega), az_up_ne (by omega), az_up_ne (by omega), az_up_ne (by omega)]
      rw [e]
      simp
    · intro a h1 h2 h3 h4 h5 h6
      rw [az_set_ne h6, hI1, az_up_ne h5, az_up_ne h4, az_up_ne h3, az_up_ne h2, az_up_ne h1]
theorem c50t {x cost : Int32} {k : Nat} {o2 : Int32} {s : (Nat → Int32) × (Nat → Int32) × Int32} (hn : nl ≤ 60) (h7 : I 28 7 = nI nl) (hE : ∀ j, j < nl → az_eb (I 33 j)) (hx : az_in x 12 = true) (hk : k = x.toNatClampNeg) (hnp : np < 40) (h5 : I 106 5 = nI np) (hs : s = tk (ordR (ltb (fun j => az_nv (I 33 j)) (I 30)) (pOn (I 29) (I 31) x) nl).reverse (I 31, (fun j => if j < 60 then 0 else I 35 j), cost)) (hK : ∀ I', (I' 31 = s.1 ∧ I' 25 = upd (I 25) k (I 0 6)) → (I' 106 5 = nI (np + 1) ∧ I' 107 = upd (I 107) np x ∧ I' 108 = upd (I 108) np cost ∧ I' 109 = upd (I 109) np cost ∧ I' 110 = upd (I 110) np (I 0 6)) → (I' (112 + np) = fun j => if j < 60 then s.2.1 j else I (112 + np) j) → (∀ a, (a ≠ 31 ∧ a ≠ 34 ∧ a ≠ 35 ∧ a ≠ 25) → a ≠ 106 → a ≠ 107 → a ≠ 108 → a ≠ 109 → a ≠ 110 → a ≠ 112 + np → I' a = I a) → K (0, some (.int (nI np)), (az_S, I', J, c, z))) : az_W xs (d + 4) 50 45 [some (.ref 0), some (.int x), some (.int o2), some (.int cost)] [] (az_S, I, J, c, z) K := by
  simp (maxDischargeDepth := 7) only [C50, th50, s50_0, s50_1, s50_2, s50_5, s50_8, s50_11, s50_12, s50_13, s50_16, s50_19, s50_20, s50_23, s50_24, s50_27, s50_28, s50_29, s50_30, s50_31, s50_34, s50_37, s50_38, s50_41, s50_42, s50_45, s50_46, s50_49, s50_50, s50_51, s50_54, s50_55, s50_58, s50_61, s50_62, s50_63, s50_66, s50_67, s50_68, s50_71, s50_72, s50_73, s50_74, s50_77, s50_78, s50_81, s50_84, s50_87, g0_2, g18_9, cc69, cc70, g0_4, cc5, cc74, cc73, g0_3, cc28, g18_6, A25, g0_6, g0_5, g28_6, A35, cc34, az_ex, az_bk0, az_bk1, az_bkx, az_cat0, az_cati, az_catr, az_catl, az_vi, az_vr, az_bo0, az_bo1, az_boi, true_and, and_true, if_true, if_false, ne_eq, not_true_eq_false, not_false_eq_true, List.set_cons_zero, List.set_cons_succ, Nat.reduceAdd, Nat.reduceLeDiff, Nat.reduceEqDiff, ↓reduceIte, reduceCtorEq, Nat.reduceSub, Nat.reduceMul, Int32.reduceLT, Int32.reduceLE, Int32.reduceAdd, Int32.reduceMul, Int32.reduceSub, az_ne10, az_ne20, az_ne30, Nat.zero_le]
  refine c28 hn h7 hE hs ?_
  intro f
  simp (maxDischargeDepth := 7) only [C50, th50, s50_0, s50_1, s50_2, s50_5, s50_8, s50_11, s50_12, s50_13, s50_16, s50_19, s50_20, s50_23, s50_24, s50_27, s50_28, s50_29, s50_30, s50_31, s50_34, s50_37, s50_38, s50_41, s50_42, s50_45, s50_46, s50_49, s50_50, s50_51, s50_54, s50_55, s50_58, s50_61, s50_62, s50_63, s50_66, s50_67, s50_68, s50_71, s50_72, s50_73, s50_74, s50_77, s50_78, s50_81, s50_84, s50_87, g0_2, g18_9, cc69, cc70, g0_4, cc5, cc74, cc73, g0_3, cc28, g18_6, A25, g0_6, g0_5, g28_6, A35, cc34, az_ex, az_bk0, az_bk1, az_bkx, az_cat0, az_cati, az_catr, az_catl, az_vi, az_vr, az_bo0, az_bo1, az_boi, true_and, and_true, if_true, if_false, ne_eq, not_true_eq_false, not_false_eq_true, List.set_cons_zero, List.set_cons_succ, Nat.reduceAdd, Nat.reduceLeDiff, Nat.reduceEqDiff, ↓reduceIte, reduceCtorEq, Nat.reduceSub, Nat.reduceMul, Int32.reduceLT, Int32.reduceLE, Int32.reduceAdd, Int32.reduceMul, Int32.reduceSub, az_ne10, az_ne20, az_ne30, Nat.zero_le, hx, tSe, az_upe, ← hk]
  refine c34 hnp (by simp [az_upe, tSe, h5]) ?_
  intro I' h1 h2 h3
  simp (maxDischargeDepth := 7) only [C50, th50, s50_0, s50_1, s50_2, s50_5, s50_8, s50_11, s50_12, s50_13, s50_16, s50_19, s50_20, s50_23, s50_24, s50_27, s50_28, s50_29, s50_30, s50_31, s50_34, s50_37, s50_38, s50_41, s50_42, s50_45, s50_46, s50_49, s50_50, s50_51, s50_54, s50_55, s50_58, s50_61, s50_62, s50_63, s50_66, s50_67, s50_68, s50_71, s50_72, s50_73, s50_74, s50_77, s50_78, s50_81, s50_84, s50_87, g0_2, g18_9, cc69, cc70, g0_4, cc5, cc74, cc73, g0_3, cc28, g18_6, A25, g0_6, g0_5, g28_6, A35, cc34, az_ex, az_bk0, az_bk1, az_bkx, az_cat0, az_cati, az_catr, az_catl, az_vi, az_vr, az_bo0, az_bo1, az_boi, true_and, and_true, if_true, if_false, ne_eq, not_true_eq_false, not_false_eq_true, List.set_cons_zero, List.set_cons_succ, Nat.reduceAdd, Nat.reduceLeDiff, Nat.reduceEqDiff, ↓reduceIte, reduceCtorEq, Nat.reduceSub, Nat.reduceMul, Int32.reduceLT, Int32.reduceLE, Int32.reduceAdd, Int32.reduceMul, Int32.reduceSub, az_ne10, az_ne20, az_ne30, Nat.zero_le]
  obtain ⟨a1, a2, a3, a4, a5⟩ := h1
  refine hK I' ⟨?_, ?_⟩ ⟨a1, ?_, ?_, ?_, ?_⟩ ?_ (fun a b1 b2 b3 b4 b5 b6 b7 => ?_)
  · rw [h3 31 (by decide) (by decide) (by decide) (by decide) (by decide) (by omega)]; simp [az_upe, tSe]
  · rw [h3 25 (by decide) (by decide) (by decide) (by decide) (by decide) (by omega)]; simp [az_upe, tSe]
  · rw [a2]; simp [az_upe, tSe]
  · rw [a3]; simp [az_upe, tSe]
  · rw [a4]; simp [az_upe, tSe]
  · rw [a5]; simp [az_upe, tSe]
  · rw [h2]
    funext j
    by_cases hj : j < 60
    · rw [if_pos hj, if_pos hj]
      simp [az_upe, tSe]
    · rw [if_neg hj, if_neg hj, az_up_ne (by omega), tSe, if_neg (by omega), if_neg (by omega), if_neg (by omega)]
  · rw [h3 a b2 b3 b4 b5 b6 b7, az_up_ne b1.2.2.2, tSe, if_neg b1.1, if_neg b1.2.2.1, if_neg b1.2.1]
end
