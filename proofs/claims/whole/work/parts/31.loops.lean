/-! loops -/
def fd {α : Type} (h : Nat → α → α) : Nat → Nat → α → α
  | 0, _, s => s
  | n + 1, j, s => fd h n (j + 1) (h j s)
theorem az_loop {α : Type} {W : Nat → α → Prop} {h : Nat → α → α} {n : Nat} (step : ∀ j s, j < n → (W j s ↔ W (j + 1) (h j s))) : ∀ m j s, j + m = n → (W j s ↔ W n (fd h m j s)) := by
  intro m
  induction m with
  | zero =>
    intro j s hj
    rw [show j = n by omega]
    exact Iff.rfl
  | succ m ih =>
    intro j s hj
    exact (step j s (by omega)).trans (ih (j + 1) (h j s) (by omega))
/-- lots on a card -/
def fbal (f g : Nat → Int32) (cd : Int32) (j : Nat) (s : Int32) : Int32 := if f j = cd then s + g j else s
section
variable {xs : az_X} {d : Nat} {nc nl np c z : Nat} {I : Nat → Nat → Int32} {J : Nat → Nat → Int64} {K : az_O → Prop}
theorem c22 {cd : Int32} (hn : nl ≤ 60) (h7 : I 28 7 = nI nl) : az_C xs (d + 1) 22 [.ref 28, .int cd] (az_S, I, J, c, z) K ↔ K (0, some (.int (fd (fbal (I 29) (I 31) cd) nl 0 0)), (az_S, I, J, c, z)) := by
  have step : ∀ j s, j < nl → (az_W xs d 22 4 [some (.ref 28), some (.int cd), some (.int s), some (.int (nI j))] [] (az_S, I, J, c, z) K ↔ az_W xs d 22 4 [some (.ref 28), some (.int cd), some (.int (fbal (I 29) (I 31) cd j s)), some (.int (nI (j + 1)))] [] (az_S, I, J, c, z) K) := by
    intro j s hj
    have f1 : az_in (nI j) 60 = true := by rw [az_in_nI (by omega)]; simp; omega
    have f2 : (nI nl ≤ nI j) = False := by rw [bz_le (by omega) (by omega)]; simp; omega
    refine Iff.trans s22_4 ?_
    simp (maxDischargeDepth := 7) only [C22, th22, s22_0, s22_1, s22_2, s22_3, s22_5, s22_6, s22_9, s22_12, s22_13, s22_16, s22_17, s22_18, s22_19, s22_22, s22_23, s22_24, s22_27, s22_28, s22_29, s22_30, s22_31, s22_34, s22_37, s22_38, g28_7, g28_0, A29, g28_2, A31, az_ex, az_bk0, az_bk1, az_bkx, az_cat0, az_cati, az_catr, az_catl, az_vi, az_vr, az_bo0, az_bo1, az_boi, true_and, and_true, if_true, if_false, ne_eq, not_true_eq_false, not_false_eq_true, List.set_cons_zero, List.set_cons_succ, Nat.reduceAdd, Nat.reduceLeDiff, Nat.reduceEqDiff, ↓reduceIte, reduceCtorEq, Nat.reduceSub, Nat.reduceMul, Int32.reduceLT, Int32.reduceLE, Int32.reduceAdd, Int32.reduceMul, Int32.reduceSub, az_ne10, az_ne20, az_ne30, Nat.zero_le, h7, f1, f2, nI_1, nI_clamp (show j < 2 ^ 31 by omega), ite_not]
    unfold fbal
    by_cases hh : I 29 j = cd <;> simp only [hh, if_true, if_false]
  simp (maxDischargeDepth := 7) only [C22, th22, s22_0, s22_1, s22_2, s22_3, s22_5, s22_6, s22_9, s22_12, s22_13, s22_16, s22_17, s22_18, s22_19, s22_22, s22_23, s22_24, s22_27, s22_28, s22_29, s22_30, s22_31, s22_34, s22_37, s22_38, g28_7, g28_0, A29, g28_2, A31, az_ex, az_bk0, az_bk1, az_bkx, az_cat0, az_cati, az_catr, az_catl, az_vi, az_vr, az_bo0, az_bo1, az_boi, true_and, and_true, if_true, if_false, ne_eq, not_true_eq_false, not_false_eq_true, List.set_cons_zero, List.set_cons_succ, Nat.reduceAdd, Nat.reduceLeDiff, Nat.reduceEqDiff, ↓reduceIte, reduceCtorEq, Nat.reduceSub, Nat.reduceMul, Int32.reduceLT, Int32.reduceLE, Int32.reduceAdd, Int32.reduceMul, Int32.reduceSub, az_ne10, az_ne20, az_ne30, Nat.zero_le]
  refine (az_loop (W := fun j s => az_W xs d 22 4 [some (.ref 28), some (.int cd), some (.int s), some (.int (nI j))] [] (az_S, I, J, c, z) K) step nl 0 0 (Nat.zero_add _)).trans ?_
  have f3 : (nI nl ≤ nI nl) = True := by rw [bz_le (by omega) (by omega)]; simp
  show az_W xs d 22 4 _ _ _ _ ↔ _
  refine Iff.trans s22_4 ?_
  simp (maxDischargeDepth := 7) only [C22, th22, s22_0, s22_1, s22_2, s22_3, s22_5, s22_6, s22_9, s22_12, s22_13, s22_16, s22_17, s22_18, s22_19, s22_22, s22_23, s22_24, s22_27, s22_28, s22_29, s22_30, s22_31, s22_34, s22_37, s22_38, g28_7, g28_0, A29, g28_2, A31, az_ex, az_bk0, az_bk1, az_bkx, az_cat0, az_cati, az_catr, az_catl, az_vi, az_vr, az_bo0, az_bo1, az_boi, true_and, and_true, if_true, if_false, ne_eq, not_true_eq_false, not_false_eq_true, List.set_cons_zero, List.set_cons_succ, Nat.reduceAdd, Nat.reduceLeDiff, Nat.reduceEqDiff, ↓reduceIte, reduceCtorEq, Nat.reduceSub, Nat.reduceMul, Int32.reduceLT, Int32.reduceLE, Int32.reduceAdd, Int32.reduceMul, Int32.reduceSub, az_ne10, az_ne20, az_ne30, Nat.zero_le, h7, f3]
theorem r101 {cd : Int32} (hn : nl ≤ 60) (h7 : I 152 17 = nI nl) : az_C xs (d + 1) 101 [.ref 152, .int cd] (az_S, I, J, c, z) K ↔ K (0, some (.int (fd (fbal (I 167) (I 169) cd) nl 0 0)), (az_S, I, J, c, z)) := by
  have step : ∀ j s, j < nl → (az_W xs d 101 4 [some (.ref 152), some (.int cd), some (.int s), some (.int (nI j))] [] (az_S, I, J, c, z) K ↔ az_W xs d 101 4 [some (.ref 152), some (.int cd), some (.int (fbal (I 167) (I 169) cd j s)), some (.int (nI (j + 1)))] [] (az_S, I, J, c, z) K) := by
    intro j s hj
    have f1 : az_in (nI j) 60 = true := by rw [az_in_nI (by omega)]; simp; omega
    have f2 : (nI nl ≤ nI j) = False := by rw [bz_le (by omega) (by omega)]; simp; omega
    refine Iff.trans s101_4 ?_
    unfold fbal
    by_cases hh : I 167 j = cd <;> simp (maxDischargeDepth := 7) only [C101, th101, s101_0, s101_1, s101_2, s101_3, s101_5, s101_6, s101_9, s101_12, s101_13, s101_14, s101_17, s101_18, s101_19, s101_20, s101_23, s101_24, s101_27, s101_28, s101_29, s101_32, s101_33, s101_34, s101_35, s101_38, s101_41, s101_42, g152_17, g152_18, A167, g152_20, A169, az_ex, az_bk0, az_bk1, az_bkx, az_cat0, az_cati, az_catr, az_catl, az_vi, az_vr, az_bo0, az_bo1, az_boi, true_and, and_true, if_true, if_false, ne_eq, not_true_eq_false, not_false_eq_true, List.set_cons_zero, List.set_cons_succ, Nat.reduceAdd, Nat.reduceLeDiff, Nat.reduceEqDiff, ↓reduceIte, reduceCtorEq, Nat.reduceSub, Nat.reduceMul, Int32.reduceLT, Int32.reduceLE, Int32.reduceAdd, Int32.reduceMul, Int32.reduceSub, az_ne10, az_ne20, az_ne30, Nat.zero_le, h7, f1, f2, nI_1, nI_clamp (show j < 2 ^ 31 by omega), hh, Int32.add_zero]
  simp (maxDischargeDepth := 7) only [C101, th101, s101_0, s101_1, s101_2, s101_3, s101_5, s101_6, s101_9, s101_12, s101_13, s101_14, s101_17, s101_18, s101_19, s101_20, s101_23, s101_24, s101_27, s101_28, s101_29, s101_32, s101_33, s101_34, s101_35, s101_38, s101_41, s101_42, g152_17, g152_18, A167, g152_20, A169, az_ex, az_bk0, az_bk1, az_bkx, az_cat0, az_cati, az_catr, az_catl, az_vi, az_vr, az_bo0, az_bo1, az_boi, true_and, and_true, if_true, if_false, ne_eq, not_true_eq_false, not_false_eq_true, List.set_cons_zero, List.set_cons_succ, Nat.reduceAdd, Nat.reduceLeDiff, Nat.reduceEqDiff, ↓reduceIte, reduceCtorEq, Nat.reduceSub, Nat.reduceMul, Int32.reduceLT, Int32.reduceLE, Int32.reduceAdd, Int32.reduceMul, Int32.reduceSub, az_ne10, az_ne20, az_ne30, Nat.zero_le]
  refine (az_loop (W := fun j s => az_W xs d 101 4 [some (.ref 152), some (.int cd), some (.int s), some (.int (nI j))] [] (az_S, I, J, c, z) K) step nl 0 0 (Nat.zero_add _)).trans ?_
  have f3 : (nI nl ≤ nI nl) = True := by rw [bz_le (by omega) (by omega)]; simp
  show az_W xs d 101 4 _ _ _ _ ↔ _
  refine Iff.trans s101_4 ?_
  simp (maxDischargeDepth := 7) only [C101, th101, s101_0, s101_1, s101_2, s101_3, s101_5, s101_6, s101_9, s101_12, s101_13, s101_14, s101_17, s101_18, s101_19, s101_20, s101_23, s101_24, s101_27, s101_28, s101_29, s101_32, s101_33, s101_34, s101_35, s101_38, s101_41, s101_42, g152_17, g152_18, A167, g152_20, A169, az_ex, az_bk0, az_bk1, az_bkx, az_cat0, az_cati, az_catr, az_catl, az_vi, az_vr, az_bo0, az_bo1, az_boi, true_and, and_true, if_true, if_false, ne_eq, not_true_eq_false, not_false_eq_true, List.set_cons_zero, List.set_cons_succ, Nat.reduceAdd, Nat.reduceLeDiff, Nat.reduceEqDiff, ↓reduceIte, reduceCtorEq, Nat.reduceSub, Nat.reduceMul, Int32.reduceLT, Int32.reduceLE, Int32.reduceAdd, Int32.reduceMul, Int32.reduceSub, az_ne10, az_ne20, az_ne30, Nat.zero_le, h7, f3]
end
