/-! coins go back: the class's tables -/
section
variable {xs : az_X} {d : Nat} {nl np mo c z : Nat} {I I' : Nat → Nat → Int32} {J : Nat → Nat → Int64} {K : az_O → Prop}
theorem c30 (hn : nl ≤ 60) (h7 : I 28 7 = nI nl) (hE : ∀ j, j < nl → az_eb (I 33 j)) (hm : mo ≤ 240) (hK : K (0, some (.int (fd (flt (exI I (nI mo)) (I 35)) nl 0 0)), (az_S, I, J, c, z))) : az_C xs (d + 2) 30 [.ref 28, .int (nI mo)] (az_S, I, J, c, z) K := by
  have key := az_loopB (n := nl) (h := flt (exI I (nI mo)) (I 35)) (Inv := fun _ _ => True) (W := fun j s => az_W xs (d + 1) 30 4 [some (.ref 28), some (.int (nI mo)), some (.int s), some (.int (nI j))] [] (az_S, I, J, c, z) K) (fun _ _ _ _ => trivial) ?_ nl 0 0 (Nat.zero_add _) trivial ?_
  · simp (maxDischargeDepth := 7) only [C30, th30, s30_0, s30_1, s30_2, s30_3, s30_5, s30_6, s30_9, s30_12, s30_13, s30_14, s30_15, s30_18, s30_21, s30_22, s30_23, s30_26, s30_27, s30_28, s30_29, s30_30, s30_33, s30_36, s30_37, g28_7, cc24, g28_6, A35, az_ex, az_bk0, az_bk1, az_bkx, az_cat0, az_cati, az_catr, az_catl, az_vi, az_vr, az_bo0, az_bo1, az_boi, true_and, and_true, if_true, if_false, ne_eq, not_true_eq_false, not_false_eq_true, List.set_cons_zero, List.set_cons_succ, Nat.reduceAdd, Nat.reduceLeDiff, Nat.reduceEqDiff, ↓reduceIte, reduceCtorEq, Nat.reduceSub, Nat.reduceMul, Int32.reduceLT, Int32.reduceLE, Int32.reduceAdd, Int32.reduceMul, Int32.reduceSub, az_ne10, az_ne20, az_ne30, Nat.zero_le]
    exact key
  · intro j s hj _ hw
    have f1 : az_in (nI j) 60 = true := by rw [az_in_nI (by omega)]; simp; omega
    have f2 : (nI nl ≤ nI j) = False := by rw [bz_le (by omega) (by omega)]; simp; omega
    refine s30_4.mpr ?_
    unfold flt at hw
    by_cases he : exI I (nI mo) j = true
    · simp only [he, if_true] at hw
      simp (maxDischargeDepth := 7) only [C30, th30, s30_0, s30_1, s30_2, s30_3, s30_5, s30_6, s30_9, s30_12, s30_13, s30_14, s30_15, s30_18, s30_21, s30_22, s30_23, s30_26, s30_27, s30_28, s30_29, s30_30, s30_33, s30_36, s30_37, g28_7, cc24, g28_6, A35, az_ex, az_bk0, az_bk1, az_bkx, az_cat0, az_cati, az_catr, az_catl, az_vi, az_vr, az_bo0, az_bo1, az_boi, true_and, and_true, if_true, if_false, ne_eq, not_true_eq_false, not_false_eq_true, List.set_cons_zero, List.set_cons_succ, Nat.reduceAdd, Nat.reduceLeDiff, Nat.reduceEqDiff, ↓reduceIte, reduceCtorEq, Nat.reduceSub, Nat.reduceMul, Int32.reduceLT, Int32.reduceLE, Int32.reduceAdd, Int32.reduceMul, Int32.reduceSub, az_ne10, az_ne20, az_ne30, Nat.zero_le, az_q0_1, az_q0_2, az_q0_3, az_q0_4, az_q0_5, az_q0_6, az_q0_7, az_q0_8, az_q1_0, az_q1_2, az_q1_3, az_q1_4, az_q1_5, az_q1_6, az_q1_7, az_q1_8, az_q2_0, az_q2_1, az_q2_3, az_q2_4, az_q2_5, az_q2_6, az_q2_7, az_q2_8, az_q3_0, az_q3_1, az_q3_2, az_q3_4, az_q3_5, az_q3_6, az_q3_7, az_q3_8, az_q4_0, az_q4_1, az_q4_2, az_q4_3, az_q4_5, az_q4_6, az_q4_7, az_q4_8, az_q5_0, az_q5_1, az_q5_2, az_q5_3, az_q5_4, az_q5_6, az_q5_7, az_q5_8, az_q6_0, az_q6_1, az_q6_2, az_q6_3, az_q6_4, az_q6_5, az_q6_7, az_q6_8, az_q7_0, az_q7_1, az_q7_2, az_q7_3, az_q7_4, az_q7_5, az_q7_6, az_q7_8, az_q8_0, az_q8_1, az_q8_2, az_q8_3, az_q8_4, az_q8_5, az_q8_6, az_q8_7, az_z10, az_z60, az_z100, az_z1000, az_z1001, az_z10000, h7, A35, f1, f2, c24 (show j < 60 by omega) (hE j hj) hm, he, nI_1, nI_clamp (show j < 2 ^ 31 by omega)]
      exact hw
    · simp only [he, Bool.false_eq_true, if_false] at hw
      simp (maxDischargeDepth := 7) only [C30, th30, s30_0, s30_1, s30_2, s30_3, s30_5, s30_6, s30_9, s30_12, s30_13, s30_14, s30_15, s30_18, s30_21, s30_22, s30_23, s30_26, s30_27, s30_28, s30_29, s30_30, s30_33, s30_36, s30_37, g28_7, cc24, g28_6, A35, az_ex, az_bk0, az_bk1, az_bkx, az_cat0, az_cati, az_catr, az_catl, az_vi, az_vr, az_bo0, az_bo1, az_boi, true_and, and_true, if_true, if_false, ne_eq, not_true_eq_false, not_false_eq_true, List.set_cons_zero, List.set_cons_succ, Nat.reduceAdd, Nat.reduceLeDiff, Nat.reduceEqDiff, ↓reduceIte, reduceCtorEq, Nat.reduceSub, Nat.reduceMul, Int32.reduceLT, Int32.reduceLE, Int32.reduceAdd, Int32.reduceMul, Int32.reduceSub, az_ne10, az_ne20, az_ne30, Nat.zero_le, az_q0_1, az_q0_2, az_q0_3, az_q0_4, az_q0_5, az_q0_6, az_q0_7, az_q0_8, az_q1_0, az_q1_2, az_q1_3, az_q1_4, az_q1_5, az_q1_6, az_q1_7, az_q1_8, az_q2_0, az_q2_1, az_q2_3, az_q2_4, az_q2_5, az_q2_6, az_q2_7, az_q2_8, az_q3_0, az_q3_1, az_q3_2, az_q3_4, az_q3_5, az_q3_6, az_q3_7, az_q3_8, az_q4_0, az_q4_1, az_q4_2, az_q4_3, az_q4_5, az_q4_6, az_q4_7, az_q4_8, az_q5_0, az_q5_1, az_q5_2, az_q5_3, az_q5_4, az_q5_6, az_q5_7, az_q5_8, az_q6_0, az_q6_1, az_q6_2, az_q6_3, az_q6_4, az_q6_5, az_q6_7, az_q6_8, az_q7_0, az_q7_1, az_q7_2, az_q7_3, az_q7_4, az_q7_5, az_q7_6, az_q7_8, az_q8_0, az_q8_1, az_q8_2, az_q8_3, az_q8_4, az_q8_5, az_q8_6, az_q8_7, az_z10, az_z60, az_z100, az_z1000, az_z1001, az_z10000, h7, f1, f2, c24 (show j < 60 by omega) (hE j hj) hm, he, nI_1, nI_clamp (show j < 2 ^ 31 by omega)]
      exact hw
  · have f3 : (nI nl ≤ nI nl) = True := by rw [bz_le (by omega) (by omega)]; simp
    refine s30_4.mpr ?_
    simp (maxDischargeDepth := 7) only [C30, th30, s30_0, s30_1, s30_2, s30_3, s30_5, s30_6, s30_9, s30_12, s30_13, s30_14, s30_15, s30_18, s30_21, s30_22, s30_23, s30_26, s30_27, s30_28, s30_29, s30_30, s30_33, s30_36, s30_37, g28_7, cc24, g28_6, A35, az_ex, az_bk0, az_bk1, az_bkx, az_cat0, az_cati, az_catr, az_catl, az_vi, az_vr, az_bo0, az_bo1, az_boi, true_and, and_true, if_true, if_false, ne_eq, not_true_eq_false, not_false_eq_true, List.set_cons_zero, List.set_cons_succ, Nat.reduceAdd, Nat.reduceLeDiff, Nat.reduceEqDiff, ↓reduceIte, reduceCtorEq, Nat.reduceSub, Nat.reduceMul, Int32.reduceLT, Int32.reduceLE, Int32.reduceAdd, Int32.reduceMul, Int32.reduceSub, az_ne10, az_ne20, az_ne30, Nat.zero_le, h7, f3]
    exact hK
/-- lots that have not expired get their coins -/
def fub (ex : Nat → Bool) (dr : Nat → Int32) (j : Nat) (g : Nat → Int32) : Nat → Int32 := if ex j = true then g else upd g j (g j + dr j)
theorem fub_eq {ex : Nat → Bool} {dr : Nat → Int32} : ∀ n j (g : Nat → Int32), fd (fub ex dr) n j g = fun k => if j ≤ k ∧ k < j + n then (if ex k = true then g k else g k + dr k) else g k := by
  intro n
  induction n with
  | zero => intro j g; funext k; rw [if_neg (by omega)]; rfl
  | succ n ih =>
    intro j g
    show fd (fub ex dr) n (j + 1) (fub ex dr j g) = _
    rw [ih]
    funext k
    have e : ∀ k, fub ex dr j g k = if k = j then (if ex k = true then g k else g k + dr k) else g k := by
      intro k
      unfold fub
      by_cases h : ex j = true
      · rw [if_pos h]
        split
        · rename_i h1; rw [h1, if_pos h]
        · rfl
      · rw [if_neg h, upde]
        split
        · rename_i h1; rw [h1, if_neg h]
        · rfl
    rw [e]
    by_cases h1 : k = j
    · subst h1
      rw [if_pos (show k ≤ k ∧ k < k + (n + 1) by omega), if_neg (show ¬ (k + 1 ≤ k ∧ k < k + 1 + n) by omega), if_pos rfl]
    · rw [if_neg h1]
      by_cases h2 : j + 1 ≤ k ∧ k < j + 1 + n
      · rw [if_pos h2, if_pos (show j ≤ k ∧ k < j + (n + 1) by omega)]
      · rw [if_neg h2, if_neg (show ¬ (j ≤ k ∧ k < j + (n + 1)) by omega)]
theorem c31 (hn : nl ≤ 60) (h7 : I 28 7 = nI nl) (hE : ∀ j, j < nl → az_eb (I 33 j)) (hm : mo ≤ 240) (hK : K (0, none, (az_S, az_set I 31 (fd (fub (exI I (nI mo)) (I 35)) nl 0 (I 31)), J, c, z))) : az_C xs (d + 2) 31 [.ref 28, .int (nI mo)] (az_S, I, J, c, z) K := by
  have key := az_loopB (n := nl) (h := fub (exI I (nI mo)) (I 35)) (Inv := fun _ _ => True) (W := fun j g => az_W xs (d + 1) 31 2 [some (.ref 28), some (.int (nI mo)), some (.int (nI j))] [] (az_S, az_set I 31 g, J, c, z) K) (fun _ _ _ _ => trivial) ?_ nl 0 (I 31) (Nat.zero_add _) trivial ?_
  · simp (maxDischargeDepth := 7) only [C31, th31, s31_0, s31_1, s31_3, s31_4, s31_7, s31_10, s31_11, s31_12, s31_13, s31_16, s31_19, s31_20, s31_23, s31_24, s31_25, s31_26, s31_27, s31_30, s31_31, s31_32, s31_33, s31_34, s31_37, s31_40, g28_7, cc24, g28_2, A31, g28_6, A35, az_ex, az_bk0, az_bk1, az_bkx, az_cat0, az_cati, az_catr, az_catl, az_vi, az_vr, az_bo0, az_bo1, az_boi, true_and, and_true, if_true, if_false, ne_eq, not_true_eq_false, not_false_eq_true, List.set_cons_zero, List.set_cons_succ, Nat.reduceAdd, Nat.reduceLeDiff, Nat.reduceEqDiff, ↓reduceIte, reduceCtorEq, Nat.reduceSub, Nat.reduceMul, Int32.reduceLT, Int32.reduceLE, Int32.reduceAdd, Int32.reduceMul, Int32.reduceSub, az_ne10, az_ne20, az_ne30, Nat.zero_le]
    rw [az_set_self] at key
    exact key
  · intro j g hj _ hw
    have f1 : az_in (nI j) 60 = true := by rw [az_in_nI (by omega)]; simp; omega
    have f2 : (nI nl ≤ nI j) = False := by rw [bz_le (by omega) (by omega)]; simp; omega
    have hx : exI (az_set I 31 g) (nI mo) j = exI I (nI mo) j := by unfold exI; rw [az_set_ne (by decide)]
    have q24 : ∀ K' : az_O → Prop, az_C xs (d + 1) 24 [.ref 28, .int (nI j), .int (nI mo)] (az_S, az_set I 31 g, J, c, z) K' ↔ K' (0, some (.int (if exI I (nI mo) j = true then 1 else 0)), (az_S, az_set I 31 g, J, c, z)) := fun K' => by
      rw [c24 (show j < 60 by omega) (by rw [az_set_ne (by decide)]; exact hE j hj) hm, hx]
    refine s31_2.mpr ?_
    unfold fub at hw
    by_cases he : exI I (nI mo) j = true
    · simp only [he, if_true] at hw
      simp (maxDischargeDepth := 7) only [C31, th31, s31_0, s31_1, s31_3, s31_4, s31_7, s31_10, s31_11, s31_12, s31_13, s31_16, s31_19, s31_20, s31_23, s31_24, s31_25, s31_26, s31_27, s31_30, s31_31, s31_32, s31_33, s31_34, s31_37, s31_40, g28_7, cc24, g28_2, A31, g28_6, A35, az_ex, az_bk0, az_bk1, az_bkx, az_cat0, az_cati, az_catr, az_catl, az_vi, az_vr, az_bo0, az_bo1, az_boi, true_and, and_true, if_true, if_false, ne_eq, not_true_eq_false, not_false_eq_true, List.set_cons_zero, List.set_cons_succ, Nat.reduceAdd, Nat.reduceLeDiff, Nat.reduceEqDiff, ↓reduceIte, reduceCtorEq, Nat.reduceSub, Nat.reduceMul, Int32.reduceLT, Int32.reduceLE, Int32.reduceAdd, Int32.reduceMul, Int32.reduceSub, az_ne10, az_ne20, az_ne30, Nat.zero_le, az_q0_1, az_q0_2, az_q0_3, az_q0_4, az_q0_5, az_q0_6, az_q0_7, az_q0_8, az_q1_0, az_q1_2, az_q1_3, az_q1_4, az_q1_5, az_q1_6, az_q1_7, az_q1_8, az_q2_0, az_q2_1, az_q2_3, az_q2_4, az_q2_5, az_q2_6, az_q2_7, az_q2_8, az_q3_0, az_q3_1, az_q3_2, az_q3_4, az_q3_5, az_q3_6, az_q3_7, az_q3_8, az_q4_0, az_q4_1, az_q4_2, az_q4_3, az_q4_5, az_q4_6, az_q4_7, az_q4_8, az_q5_0, az_q5_1, az_q5_2, az_q5_3, az_q5_4, az_q5_6, az_q5_7, az_q5_8, az_q6_0, az_q6_1, az_q6_2, az_q6_3, az_q6_4, az_q6_5, az_q6_7, az_q6_8, az_q7_0, az_q7_1, az_q7_2, az_q7_3, az_q7_4, az_q7_5, az_q7_6, az_q7_8, az_q8_0, az_q8_1, az_q8_2, az_q8_3, az_q8_4, az_q8_5, az_q8_6, az_q8_7, az_z10, az_z60, az_z100, az_z1000, az_z1001, az_z10000, az_sete, h7, f1, f2, q24, he, nI_1, nI_clamp (show j < 2 ^ 31 by omega)]
      exact hw
    · simp only [he, Bool.false_eq_true, if_false] at hw
      simp (maxDischargeDepth := 7) only [C31, th31, s31_0, s31_1, s31_3, s31_4, s31_7, s31_10, s31_11, s31_12, s31_13, s31_16, s31_19, s31_20, s31_23, s31_24, s31_25, s31_26, s31_27, s31_30, s31_31, s31_32, s31_33, s31_34, s31_37, s31_40, g28_7, cc24, g28_2, A31, g28_6, A35, az_ex, az_bk0, az_bk1, az_bkx, az_cat0, az_cati, az_catr, az_catl, az_vi, az_vr, az_bo0, az_bo1, az_boi, true_and, and_true, if_true, if_false, ne_eq, not_true_eq_false, not_false_eq_true, List.set_cons_zero, List.set_cons_succ, Nat.reduceAdd, Nat.reduceLeDiff, Nat.reduceEqDiff, ↓reduceIte, reduceCtorEq, Nat.reduceSub, Nat.reduceMul, Int32.reduceLT, Int32.reduceLE, Int32.reduceAdd, Int32.reduceMul, Int32.reduceSub, az_ne10, az_ne20, az_ne30, Nat.zero_le, az_q0_1, az_q0_2, az_q0_3, az_q0_4, az_q0_5, az_q0_6, az_q0_7, az_q0_8, az_q1_0, az_q1_2, az_q1_3, az_q1_4, az_q1_5, az_q1_6, az_q1_7, az_q1_8, az_q2_0, az_q2_1, az_q2_3, az_q2_4, az_q2_5, az_q2_6, az_q2_7, az_q2_8, az_q3_0, az_q3_1, az_q3_2, az_q3_4, az_q3_5, az_q3_6, az_q3_7, az_q3_8, az_q4_0, az_q4_1, az_q4_2, az_q4_3, az_q4_5, az_q4_6, az_q4_7, az_q4_8, az_q5_0, az_q5_1, az_q5_2, az_q5_3, az_q5_4, az_q5_6, az_q5_7, az_q5_8, az_q6_0, az_q6_1, az_q6_2, az_q6_3, az_q6_4, az_q6_5, az_q6_7, az_q6_8, az_q7_0, az_q7_1, az_q7_2, az_q7_3, az_q7_4, az_q7_5, az_q7_6, az_q7_8, az_q8_0, az_q8_1, az_q8_2, az_q8_3, az_q8_4, az_q8_5, az_q8_6, az_q8_7, az_z10, az_z60, az_z100, az_z1000, az_z1001, az_z10000, az_sete, az_set_up, h7, A35, f1, f2, q24, he, nI_1, nI_clamp (show j < 2 ^ 31 by omega)]
      exact hw
  · have f3 : (nI nl ≤ nI nl) = True := by rw [bz_le (by omega) (by omega)]; simp
    refine s31_2.mpr ?_
    simp (maxDischargeDepth := 7) only [C31, th31, s31_0, s31_1, s31_3, s31_4, s31_7, s31_10, s31_11, s31_12, s31_13, s31_16, s31_19, s31_20, s31_23, s31_24, s31_25, s31_26, s31_27, s31_30, s31_31, s31_32, s31_33, s31_34, s31_37, s31_40, g28_7, cc24, g28_2, A31, g28_6, A35, az_ex, az_bk0, az_bk1, az_bkx, az_cat0, az_cati, az_catr, az_catl, az_vi, az_vr, az_bo0, az_bo1, az_boi, true_and, and_true, if_true, if_false, ne_eq, not_true_eq_false, not_false_eq_true, List.set_cons_zero, List.set_cons_succ, Nat.reduceAdd, Nat.reduceLeDiff, Nat.reduceEqDiff, ↓reduceIte, reduceCtorEq, Nat.reduceSub, Nat.reduceMul, Int32.reduceLT, Int32.reduceLE, Int32.reduceAdd, Int32.reduceMul, Int32.reduceSub, az_ne10, az_ne20, az_ne30, Nat.zero_le, az_sete, h7, f3]
    exact hK
theorem fd_sb {dr : Nat → Int32} : ∀ n j (g : Nat → Int32), fd (fun j f => upd f j (f j - dr j)) n j g = fun k => if j ≤ k ∧ k < j + n then g k - dr k else g k := by
  intro n
  induction n with
  | zero => intro j g; funext k; rw [if_neg (by omega)]; rfl
  | succ n ih =>
    intro j g
    show fd (fun j f => upd f j (f j - dr j)) n (j + 1) (upd g j (g j - dr j)) = _
    rw [ih]
    funext k
    rw [upde]
    by_cases h1 : k = j
    · subst h1
      rw [if_neg (by omega), if_pos rfl, if_pos (by omega)]
    · rw [if_neg h1]
      by_cases h2 : j + 1 ≤ k ∧ k < j + 1 + n
      · rw [if_pos h2, if_pos (by omega)]
      · rw [if_neg h2, if_neg (by omega)]
theorem c35 {p : Nat} (hp : p < 40) (hK : ∀ I', I' (112 + p) = (fun k => if k < 60 then I (112 + p) k - I 35 k else I (112 + p) k) → I' 109 = upd (I 109) p (fd (fun j s => s - I 35 j) 60 0 (I 109 p)) → (∀ a, a ≠ 112 + p → a ≠ 109 → I' a = I a) → K (0, none, (az_S, I', J, c, z))) : az_C xs (d + 1) 35 [.ref 106, .int (nI p), .ref 35] (az_S, I, J, c, z) K := by
  have f1 : az_in (nI p) 40 = true := by rw [az_in_nI (by omega)]; simp; omega
  have g1 : (35 = 112 + p) = False := by simp; omega
  have g2 : (109 = 112 + p) = False := by simp; omega
  have g3 : (112 + p = 109) = False := by simp; omega
  have n60 : ((60 : Int32)) = nI 60 := rfl
  have key := az_loopB (n := 60) (h := fun j (s : (Nat → Int32) × Int32) => (upd s.1 j (s.1 j - I 35 j), s.2 - I 35 j)) (Inv := fun _ _ => True) (W := fun j (s : (Nat → Int32) × Int32) => ∀ I', I' (112 + p) = s.1 → I' 109 = upd (I 109) p s.2 → (∀ a, a ≠ 112 + p → a ≠ 109 → I' a = I a) → az_W xs d 35 2 [some (.ref 106), some (.int (nI p)), some (.ref 35), some (.int (nI j))] [] (az_S, I', J, c, z) K) (fun _ _ _ _ => trivial) ?_ 60 0 (I (112 + p), I 109 p) (by omega) trivial ?_
  · simp (maxDischargeDepth := 7) only [C35, th35, s35_0, s35_1, s35_3, s35_5, s35_8, s35_9, s35_12, s35_13, s35_14, s35_15, s35_16, s35_17, s35_18, s35_19, s35_20, s35_21, s35_22, s35_23, s35_26, s35_27, s35_28, s35_29, s35_30, s35_31, s35_32, s35_33, s35_34, s35_37, s35_40, g106_4, R111, AR111, g106_2, A109, az_ex, az_bk0, az_bk1, az_bkx, az_cat0, az_cati, az_catr, az_catl, az_vi, az_vr, az_bo0, az_bo1, az_boi, true_and, and_true, if_true, if_false, ne_eq, not_true_eq_false, not_false_eq_true, List.set_cons_zero, List.set_cons_succ, Nat.reduceAdd, Nat.reduceLeDiff, Nat.reduceEqDiff, ↓reduceIte, reduceCtorEq, Nat.reduceSub, Nat.reduceMul, Int32.reduceLT, Int32.reduceLE, Int32.reduceAdd, Int32.reduceMul, Int32.reduceSub, az_ne10, az_ne20, az_ne30, Nat.zero_le]
    exact key I rfl (by dsimp only; rw [upd_same]) (fun a _ _ => rfl)
  · rintro j ⟨f, v⟩ hj _ hw I' h1 h2 h3
    dsimp only at hw h1 h2
    have f2 : az_in (nI j) 60 = true := by rw [az_in_nI (by omega)]; simp; omega
    have f3 : ((60 : Int32) ≤ nI j) = False := by rw [n60, bz_le (by omega) (by omega)]; simp; omega
    have e35 : I' 35 = I 35 := h3 35 (by omega) (by decide)
    refine s35_2.mpr ?_
    simp (maxDischargeDepth := 7) only [C35, th35, s35_0, s35_1, s35_3, s35_5, s35_8, s35_9, s35_12, s35_13, s35_14, s35_15, s35_16, s35_17, s35_18, s35_19, s35_20, s35_21, s35_22, s35_23, s35_26, s35_27, s35_28, s35_29, s35_30, s35_31, s35_32, s35_33, s35_34, s35_37, s35_40, g106_4, R111, AR111, g106_2, A109, az_ex, az_bk0, az_bk1, az_bkx, az_cat0, az_cati, az_catr, az_catl, az_vi, az_vr, az_bo0, az_bo1, az_boi, true_and, and_true, if_true, if_false, ne_eq, not_true_eq_false, not_false_eq_true, List.set_cons_zero, List.set_cons_succ, Nat.reduceAdd, Nat.reduceLeDiff, Nat.reduceEqDiff, ↓reduceIte, reduceCtorEq, Nat.reduceSub, Nat.reduceMul, Int32.reduceLT, Int32.reduceLE, Int32.reduceAdd, Int32.reduceMul, Int32.reduceSub, az_ne10, az_ne20, az_ne30, Nat.zero_le, az_q0_1, az_q0_2, az_q0_3, az_q0_4, az_q0_5, az_q0_6, az_q0_7, az_q0_8, az_q1_0, az_q1_2, az_q1_3, az_q1_4, az_q1_5, az_q1_6, az_q1_7, az_q1_8, az_q2_0, az_q2_1, az_q2_3, az_q2_4, az_q2_5, az_q2_6, az_q2_7, az_q2_8, az_q3_0, az_q3_1, az_q3_2, az_q3_4, az_q3_5, az_q3_6, az_q3_7, az_q3_8, az_q4_0, az_q4_1, az_q4_2, az_q4_3, az_q4_5, az_q4_6, az_q4_7, az_q4_8, az_q5_0, az_q5_1, az_q5_2, az_q5_3, az_q5_4, az_q5_6, az_q5_7, az_q5_8, az_q6_0, az_q6_1, az_q6_2, az_q6_3, az_q6_4, az_q6_5, az_q6_7, az_q6_8, az_q7_0, az_q7_1, az_q7_2, az_q7_3, az_q7_4, az_q7_5, az_q7_6, az_q7_8, az_q8_0, az_q8_1, az_q8_2, az_q8_3, az_q8_4, az_q8_5, az_q8_6, az_q8_7, az_z10, az_z60, az_z100, az_z1000, az_z1001, az_z10000, az_upe, f1, f2, f3, g1, g2, g3, h1, h2, e35, A35, R111, AR111 hp, upd_at, nI_1, nI_clamp (show p < 2 ^ 31 by omega), nI_clamp (show j < 2 ^ 31 by omega)]
    refine hw _ ?_ ?_ ?_
    · rw [az_upe, if_neg (by omega), az_upe, if_pos rfl, h1]
    · rw [az_upe, if_pos rfl, az_upe, if_neg (by omega), h2, upd_upd]
    · intro a a1 a2
      rw [az_up_ne a2, az_up_ne a1]
      exact h3 a a1 a2
  · intro I' h1 h2 h3
    have f3 : ((60 : Int32) ≤ nI 60) = True := by decide
    have e6 : ∀ n j (f : Nat → Int32) (v : Int32), fd (fun j (s : (Nat → Int32) × Int32) => (upd s.1 j (s.1 j - I 35 j), s.2 - I 35 j)) n j (f, v) = (fd (fun j f => upd f j (f j - I 35 j)) n j f, fd (fun j s => s - I 35 j) n j v) := by
      intro n
      induction n with
      | zero => intro j f v; rfl
      | succ n ih => intro j f v; exact ih (j + 1) _ _
    rw [e6] at h1 h2
    refine s35_2.mpr ?_
    simp (maxDischargeDepth := 7) only [C35, th35, s35_0, s35_1, s35_3, s35_5, s35_8, s35_9, s35_12, s35_13, s35_14, s35_15, s35_16, s35_17, s35_18, s35_19, s35_20, s35_21, s35_22, s35_23, s35_26, s35_27, s35_28, s35_29, s35_30, s35_31, s35_32, s35_33, s35_34, s35_37, s35_40, g106_4, R111, AR111, g106_2, A109, az_ex, az_bk0, az_bk1, az_bkx, az_cat0, az_cati, az_catr, az_catl, az_vi, az_vr, az_bo0, az_bo1, az_boi, true_and, and_true, if_true, if_false, ne_eq, not_true_eq_false, not_false_eq_true, List.set_cons_zero, List.set_cons_succ, Nat.reduceAdd, Nat.reduceLeDiff, Nat.reduceEqDiff, ↓reduceIte, reduceCtorEq, Nat.reduceSub, Nat.reduceMul, Int32.reduceLT, Int32.reduceLE, Int32.reduceAdd, Int32.reduceMul, Int32.reduceSub, az_ne10, az_ne20, az_ne30, Nat.zero_le, az_q0_1, az_q0_2, az_q0_3, az_q0_4, az_q0_5, az_q0_6, az_q0_7, az_q0_8, az_q1_0, az_q1_2, az_q1_3, az_q1_4, az_q1_5, az_q1_6, az_q1_7, az_q1_8, az_q2_0, az_q2_1, az_q2_3, az_q2_4, az_q2_5, az_q2_6, az_q2_7, az_q2_8, az_q3_0, az_q3_1, az_q3_2, az_q3_4, az_q3_5, az_q3_6, az_q3_7, az_q3_8, az_q4_0, az_q4_1, az_q4_2, az_q4_3, az_q4_5, az_q4_6, az_q4_7, az_q4_8, az_q5_0, az_q5_1, az_q5_2, az_q5_3, az_q5_4, az_q5_6, az_q5_7, az_q5_8, az_q6_0, az_q6_1, az_q6_2, az_q6_3, az_q6_4, az_q6_5, az_q6_7, az_q6_8, az_q7_0, az_q7_1, az_q7_2, az_q7_3, az_q7_4, az_q7_5, az_q7_6, az_q7_8, az_q8_0, az_q8_1, az_q8_2, az_q8_3, az_q8_4, az_q8_5, az_q8_6, az_q8_7, az_z10, az_z60, az_z100, az_z1000, az_z1001, az_z10000, f3]
    refine hK I' ?_ h2 h3
    rw [h1, fd_sb]
    funext k
    simp
end
