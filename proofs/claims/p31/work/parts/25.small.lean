/-! small methods -/
theorem az_int {x : Int32} {n : Nat} : az_in x n = true ↔ 0 ≤ x.toInt ∧ x.toInt < n := by
  rw [az_in_iff, vp_in_iff]
theorem az_in_nI {j n : Nat} (hj : j < 2 ^ 31) : az_in (nI j) n = decide (j < n) := by
  apply Bool.eq_iff_iff.mpr
  rw [az_int, nI_toInt hj]
  simp
theorem az_lt0 {x : Int32} : x < 0 ↔ x.toInt < 0 := by
  rw [Int32.lt_iff_toInt_lt]
  rfl
theorem az_ne10 : ((1 : Int32) = 0) = False := by decide
theorem az_ne20 : ((2 : Int32) = 0) = False := by decide
theorem az_ne30 : ((3 : Int32) = 0) = False := by decide
section
variable {xs : az_X} {d : Nat} {S : List az_Shp} {I : Nat → Nat → Int32} {J : Nat → Nat → Int64} {c z : Nat} {K : az_O → Prop}
theorem c69 {p : Int32} {N : Nat} (hN : N < 2 ^ 31) : az_C xs (d + 1) 69 [.int p, .int (nI N)] (S, I, J, c, z) K ↔ if az_in p N = true then K (0, none, (S, I, J, c, z)) else K (1, none, (S, I, J, c + 1, z + 6)) := by
  simp only [C69, th69, s69_0, s69_1, s69_4, s69_5, s69_6, s69_9, s69_20, az_ex, az_bk0, az_bk1, az_bkx, az_cat0, az_cati, az_catr, az_catl, az_vi, az_vr, az_bo0, az_bo1, az_boi, true_and, and_true, if_true, if_false, ne_eq, not_true_eq_false, not_false_eq_true, List.set_cons_zero, List.set_cons_succ, Nat.reduceAdd, Nat.reduceLeDiff, Nat.reduceEqDiff, ↓reduceIte, reduceCtorEq, Nat.reduceSub, Nat.reduceMul, Int32.reduceLT, Int32.reduceLE, Int32.reduceAdd, Int32.reduceMul, Int32.reduceSub, az_ne10, az_ne20, az_ne30, Nat.zero_le]
  have e1 := @az_int p N
  have e2 := @az_lt0 p
  have e3 : p < nI N ↔ p.toInt < N := by rw [Int32.lt_iff_toInt_lt, nI_toInt hN]
  simp only [e1, e2, e3]
  split <;> split <;> (try split) <;> first | rfl | (exfalso; omega)
theorem c69_3 {p : Int32} : az_C xs (d + 1) 69 [.int p, .int 3] (S, I, J, c, z) K ↔ if az_in p 3 = true then K (0, none, (S, I, J, c, z)) else K (1, none, (S, I, J, c + 1, z + 6)) := c69 (N := 3) (by decide)
theorem c69_4 {p : Int32} : az_C xs (d + 1) 69 [.int p, .int 4] (S, I, J, c, z) K ↔ if az_in p 4 = true then K (0, none, (S, I, J, c, z)) else K (1, none, (S, I, J, c + 1, z + 6)) := c69 (N := 4) (by decide)
theorem c70 {v lo hi : Int32} : az_C xs (d + 1) 70 [.int v, .int lo, .int hi] (S, I, J, c, z) K ↔ if lo ≤ v ∧ v ≤ hi then K (0, none, (S, I, J, c, z)) else K (2, none, (S, I, J, c + 1, z + 6)) := by
  simp only [C70, th70, s70_0, s70_1, s70_2, s70_5, s70_6, s70_7, s70_10, s70_21, az_ex, az_bk0, az_bk1, az_bkx, az_cat0, az_cati, az_catr, az_catl, az_vi, az_vr, az_bo0, az_bo1, az_boi, true_and, and_true, if_true, if_false, ne_eq, not_true_eq_false, not_false_eq_true, List.set_cons_zero, List.set_cons_succ, Nat.reduceAdd, Nat.reduceLeDiff, Nat.reduceEqDiff, ↓reduceIte, reduceCtorEq, Nat.reduceSub, Nat.reduceMul, Int32.reduceLT, Int32.reduceLE, Int32.reduceAdd, Int32.reduceMul, Int32.reduceSub, az_ne10, az_ne20, az_ne30, Nat.zero_le]
  have e1 : v < lo ↔ v.toInt < lo.toInt := Int32.lt_iff_toInt_lt
  have e2 : lo ≤ v ↔ lo.toInt ≤ v.toInt := Int32.le_iff_toInt_le
  have e3 : v ≤ hi ↔ v.toInt ≤ hi.toInt := Int32.le_iff_toInt_le
  simp only [e1, e2, e3]
  split <;> (try split) <;> (try split) <;> first | rfl | (exfalso; omega)
theorem c73 {b : Int32} : az_C xs (d + 1) 73 [.int b] (S, I, J, c, z) K ↔ if b = 0 then K (0, none, (S, I, J, c, z)) else K (3, none, (S, I, J, c + 1, z + 6)) := by
  simp only [C73, th73, s73_0, s73_1, s73_4, s73_15, az_ex, az_bk0, az_bk1, az_bkx, az_cat0, az_cati, az_catr, az_catl, az_vi, az_vr, az_bo0, az_bo1, az_boi, true_and, and_true, if_true, if_false, ne_eq, not_true_eq_false, not_false_eq_true, List.set_cons_zero, List.set_cons_succ, Nat.reduceAdd, Nat.reduceLeDiff, Nat.reduceEqDiff, ↓reduceIte, reduceCtorEq, Nat.reduceSub, Nat.reduceMul, Int32.reduceLT, Int32.reduceLE, Int32.reduceAdd, Int32.reduceMul, Int32.reduceSub, az_ne10, az_ne20, az_ne30, Nat.zero_le]
theorem c20 {K : az_O → Prop} : az_C xs (d + 1) 20 [.ref 28] (az_S, I, J, c, z) K ↔ K (0, some (.int (if I 28 7 < 60 then 0 else 1)), (az_S, I, J, c, z)) := by
  simp only [C20, th20, s20_0, s20_1, s20_4, s20_6, s20_9, s20_10, s20_13, s20_14, g28_7, az_ex, az_bk0, az_bk1, az_bkx, az_cat0, az_cati, az_catr, az_catl, az_vi, az_vr, az_bo0, az_bo1, az_boi, true_and, and_true, if_true, if_false, ne_eq, not_true_eq_false, not_false_eq_true, List.set_cons_zero, List.set_cons_succ, Nat.reduceAdd, Nat.reduceLeDiff, Nat.reduceEqDiff, ↓reduceIte, reduceCtorEq, Nat.reduceSub, Nat.reduceMul, Int32.reduceLT, Int32.reduceLE, Int32.reduceAdd, Int32.reduceMul, Int32.reduceSub, az_ne10, az_ne20, az_ne30, Nat.zero_le]
  split <;> simp only [*, if_true, if_false]
theorem c21 {N : Nat} {a b e f g : Int32} (hN : N < 60) (h7 : I 28 7 = nI N) : az_C xs (d + 1) 21 [.ref 28, .int a, .int b, .int e, .int f, .int g] (az_S, I, J, c, z) K ↔
    K (0, none, (az_S, az_up (az_up (az_up (az_up (az_up (az_up I 28 7 (nI (N + 1))) 29 N a) 30 N b) 31 N e) 32 N f) 33 N g, J, c, z)) := by
  have h1 : az_in (nI N) 60 = true := by rw [az_in_nI (by omega)]; simp [hN]
  simp only [C21, th21, s21_0, s21_1, s21_4, s21_6, s21_7, s21_8, s21_11, s21_12, s21_13, s21_16, s21_17, s21_20, s21_22, s21_23, s21_24, s21_25, s21_28, s21_30, s21_31, s21_32, s21_33, s21_36, s21_38, s21_39, s21_40, s21_41, s21_44, s21_46, s21_48, s21_49, s21_50, s21_53, s21_55, s21_57, s21_58, g28_7, p28_7, g28_0, A29, g28_1, A30, g28_2, A31, g28_3, A32, g28_4, A33, az_ex, az_bk0, az_bk1, az_bkx, az_cat0, az_cati, az_catr, az_catl, az_vi, az_vr, az_bo0, az_bo1, az_boi, true_and, and_true, if_true, if_false, ne_eq, not_true_eq_false, not_false_eq_true, List.set_cons_zero, List.set_cons_succ, Nat.reduceAdd, Nat.reduceLeDiff, Nat.reduceEqDiff, ↓reduceIte, reduceCtorEq, Nat.reduceSub, Nat.reduceMul, Int32.reduceLT, Int32.reduceLE, Int32.reduceAdd, Int32.reduceMul, Int32.reduceSub, az_ne10, az_ne20, az_ne30, Nat.zero_le, h7, h1, nI_clamp (show N < 2 ^ 31 by omega), nI_1]
end
