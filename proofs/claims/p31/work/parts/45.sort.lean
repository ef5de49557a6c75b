/-! the lots' orders, by both -/
def az_eb (x : Int32) : Prop := x = -1 ∨ ∃ e : Nat, e ≤ 300 ∧ x = nI e
theorem az_nv_eq {x y : Int32} (hx : az_eb x) (hy : az_eb y) : az_nv x = az_nv y ↔ x = y := by
  rcases hx with rfl | ⟨a, ha, rfl⟩ <;> rcases hy with rfl | ⟨b, hb, rfl⟩
  · simp
  · rw [az_nv1, az_nvn hb]
    constructor
    · intro h; exact absurd h.symm (by rw [bz_n1 hb]; exact id)
    · intro h; exact absurd h.symm (by rw [bz_n2 hb]; exact id)
  · rw [az_nv1, az_nvn ha]
    constructor
    · intro h; exact absurd h (by rw [bz_n1 ha]; exact id)
    · intro h; exact absurd h (by rw [bz_n2 ha]; exact id)
  · rw [az_nvn ha, az_nvn hb]
theorem az_nv_lt {e : Nat} (h : e ≤ 300) : nI e < 100000 ∧ ¬ ((100000 : Int32) < nI e) := by
  have h1 : (100000 : Int32).toInt = 100000 := by decide
  constructor
  · rw [Int32.lt_iff_toInt_lt, nI_toInt (by omega), h1]; omega
  · rw [Int32.lt_iff_toInt_lt, nI_toInt (by omega), h1]; omega
theorem bz_nlt {x y : Int32} : (x ≤ y) = ¬ (y < x) := by
  apply propext
  rw [Int32.le_iff_toInt_le, Int32.lt_iff_toInt_lt]
  omega
theorem az_loopI {α : Type} {W : Nat → α → Prop} {Inv : Nat → α → Prop} {h : Nat → α → α} {n : Nat} (hI : ∀ j s, j < n → Inv j s → Inv (j + 1) (h j s)) (step : ∀ j s, j < n → Inv j s → (W j s ↔ W (j + 1) (h j s))) : ∀ m j s, j + m = n → Inv j s → (W j s ↔ W n (fd h m j s)) := by
  intro m
  induction m with
  | zero =>
    intro j s hj _
    rw [show j = n by omega]
    exact Iff.rfl
  | succ m ih =>
    intro j s hj hi
    exact (step j s (by omega) hi).trans (ih (j + 1) (h j s) (by omega) (hI j s (by omega) hi))
theorem fd_fill {v : Int32} : ∀ m j (f : Nat → Int32), fd (fun j f => upd f j v) m j f = fun k => if j ≤ k ∧ k < j + m then v else f k := by
  intro m
  induction m with
  | zero => intro j f; funext k; rw [if_neg (by omega)]; rfl
  | succ m ih =>
    intro j f
    show fd (fun j f => upd f j v) m (j + 1) (upd f j v) = _
    rw [ih]
    funext k
    by_cases h1 : k = j
    · subst h1
      rw [if_neg (by omega), if_pos (by omega), upde, if_pos rfl]
    · by_cases h2 : j + 1 ≤ k ∧ k < j + 1 + m
      · rw [if_pos h2, if_pos (by omega)]
      · rw [if_neg h2, if_neg (by omega), upde, if_neg h1]
section
variable {xs : az_X} {d : Nat} {nl c z : Nat} {I : Nat → Nat → Int32} {J : Nat → Nat → Int64} {K : az_O → Prop}
theorem c143 {a n : Nat} {v : Int32} (hl : az_aln az_S a = some n) (hA : ∀ i, az_isA az_S 1 a i = az_in i n) (hn : n ≤ 60) : az_C xs (d + 1) 88 [.ref a, .int v] (az_S, I, J, c, z) K ↔ K (0, none, (az_S, az_set I a (fun j => if j < n then v else I a j), J, c, z)) := by
  have step : ∀ j f, j < n → (az_W xs d 88 5 [some (.ref a), some (.int v), some (.int (nI j)), some (.int (nI n))] [] (az_S, az_set I a f, J, c, z) K ↔ az_W xs d 88 5 [some (.ref a), some (.int v), some (.int (nI (j + 1))), some (.int (nI n))] [] (az_S, az_set I a (upd f j v), J, c, z) K) := by
    intro j f hj
    have f1 : az_in (nI j) n = true := by rw [az_in_nI (by omega)]; simp; omega
    have f2 : (nI n ≤ nI j) = False := by rw [bz_le (by omega) (by omega)]; simp; omega
    refine Iff.trans s88_5 ?_
    simp (maxDischargeDepth := 7) only [C88, th88, s88_0, s88_1, s88_2, s88_3, s88_4, s88_6, s88_7, s88_10, s88_11, s88_12, s88_13, s88_14, s88_17, s88_20, az_ex, az_bk0, az_bk1, az_bkx, az_cat0, az_cati, az_catr, az_catl, az_vi, az_vr, az_bo0, az_bo1, az_boi, true_and, and_true, if_true, if_false, ne_eq, not_true_eq_false, not_false_eq_true, List.set_cons_zero, List.set_cons_succ, Nat.reduceAdd, Nat.reduceLeDiff, Nat.reduceEqDiff, ↓reduceIte, reduceCtorEq, Nat.reduceSub, Nat.reduceMul, Int32.reduceLT, Int32.reduceLE, Int32.reduceAdd, Int32.reduceMul, Int32.reduceSub, az_ne10, az_ne20, az_ne30, Nat.zero_le, hA, f1, f2, nI_1, nI_clamp (show j < 2 ^ 31 by omega), az_set_up]
  have e9 : Int32.ofNat n = nI n := rfl
  simp (maxDischargeDepth := 7) only [C88, th88, s88_0, s88_1, s88_2, s88_3, s88_4, s88_6, s88_7, s88_10, s88_11, s88_12, s88_13, s88_14, s88_17, s88_20, az_ex, az_bk0, az_bk1, az_bkx, az_cat0, az_cati, az_catr, az_catl, az_vi, az_vr, az_bo0, az_bo1, az_boi, true_and, and_true, if_true, if_false, ne_eq, not_true_eq_false, not_false_eq_true, List.set_cons_zero, List.set_cons_succ, Nat.reduceAdd, Nat.reduceLeDiff, Nat.reduceEqDiff, ↓reduceIte, reduceCtorEq, Nat.reduceSub, Nat.reduceMul, Int32.reduceLT, Int32.reduceLE, Int32.reduceAdd, Int32.reduceMul, Int32.reduceSub, az_ne10, az_ne20, az_ne30, Nat.zero_le, hl, e9]
  have e0 : (az_S, I, J, c, z) = (az_S, az_set I a (I a), J, c, z) := by rw [az_set_self]
  rw [e0]
  refine (az_loop (W := fun j f => az_W xs d 88 5 [some (.ref a), some (.int v), some (.int (nI j)), some (.int (nI n))] [] (az_S, az_set I a f, J, c, z) K) step n 0 (I a) (Nat.zero_add _)).trans ?_
  have f3 : (nI n ≤ nI n) = True := by rw [bz_le (by omega) (by omega)]; simp
  show az_W xs d 88 5 _ _ _ _ ↔ _
  refine Iff.trans s88_5 ?_
  have e8 : fd (fun j f => upd f j v) n 0 (I a) = fun j => if j < n then v else I a j := by
    rw [fd_fill]
    funext k
    simp
  simp (maxDischargeDepth := 7) only [C88, th88, s88_0, s88_1, s88_2, s88_3, s88_4, s88_6, s88_7, s88_10, s88_11, s88_12, s88_13, s88_14, s88_17, s88_20, az_ex, az_bk0, az_bk1, az_bkx, az_cat0, az_cati, az_catr, az_catl, az_vi, az_vr, az_bo0, az_bo1, az_boi, true_and, and_true, if_true, if_false, ne_eq, not_true_eq_false, not_false_eq_true, List.set_cons_zero, List.set_cons_succ, Nat.reduceAdd, Nat.reduceLeDiff, Nat.reduceEqDiff, ↓reduceIte, reduceCtorEq, Nat.reduceSub, Nat.reduceMul, Int32.reduceLT, Int32.reduceLE, Int32.reduceAdd, Int32.reduceMul, Int32.reduceSub, az_ne10, az_ne20, az_ne30, Nat.zero_le, f3, e8]
theorem c25 {a b : Nat} (ha : a < 60) (hb : b < 60) (hEa : az_eb (I 33 a)) (hEb : az_eb (I 33 b)) : az_C xs (d + 1) 25 [.ref 28, .int (nI a), .int (nI b)] (az_S, I, J, c, z) K ↔ K (0, some (.int (if ltb (fun j => az_nv (I 33 j)) (I 30) a b = true then 1 else 0)), (az_S, I, J, c, z)) := by
  have f1 : az_in (nI a) 60 = true := by rw [az_in_nI (by omega)]; simp; omega
  have f2 : az_in (nI b) 60 = true := by rw [az_in_nI (by omega)]; simp; omega
  have g1 : nI_clamp (show a < 2 ^ 31 by omega) = nI_clamp (show a < 2 ^ 31 by omega) := rfl
  have hq := az_nv_eq hEa hEb
  have f3 : (nI b ≤ nI a) = (b ≤ a) := bz_le (by omega) (by omega)
  have n1 : ((0 : Int32) = -1) = False := by decide
  unfold ltb
  by_cases h1 : I 33 a = I 33 b
  · simp only [hq.mpr h1, if_true]
    by_cases h2 : I 30 a = I 30 b
    · by_cases h3 : a < b
      · simp (maxDischargeDepth := 7) only [C25, th25, s25_0, s25_1, s25_4, s25_5, s25_6, s25_7, s25_10, s25_11, s25_12, s25_15, s25_16, s25_19, s25_20, s25_21, s25_22, s25_25, s25_26, s25_29, s25_30, s25_31, s25_32, s25_35, s25_36, s25_39, s25_40, s25_41, s25_42, s25_45, s25_46, s25_47, s25_50, s25_51, s25_54, s25_55, s25_56, s25_57, s25_60, s25_61, s25_62, s25_63, s25_66, s25_67, s25_68, s25_71, s25_72, s25_75, s25_76, s25_77, s25_78, s25_81, s25_82, s25_83, s25_86, s25_87, s25_90, s25_91, s25_92, s25_93, s25_94, s25_97, s25_98, s25_101, s25_102, g28_4, A33, g28_1, A30, az_ex, az_bk0, az_bk1, az_bkx, az_cat0, az_cati, az_catr, az_catl, az_vi, az_vr, az_bo0, az_bo1, az_boi, true_and, and_true, if_true, if_false, ne_eq, not_true_eq_false, not_false_eq_true, List.set_cons_zero, List.set_cons_succ, Nat.reduceAdd, Nat.reduceLeDiff, Nat.reduceEqDiff, ↓reduceIte, reduceCtorEq, Nat.reduceSub, Nat.reduceMul, Int32.reduceLT, Int32.reduceLE, Int32.reduceAdd, Int32.reduceMul, Int32.reduceSub, az_ne10, az_ne20, az_ne30, Nat.zero_le, f1, f2, f3, nI_clamp (show a < 2 ^ 31 by omega), nI_clamp (show b < 2 ^ 31 by omega), h1, h2, h3, decide_true, show (b ≤ a) = False by simp; omega]
      · simp (maxDischargeDepth := 7) only [C25, th25, s25_0, s25_1, s25_4, s25_5, s25_6, s25_7, s25_10, s25_11, s25_12, s25_15, s25_16, s25_19, s25_20, s25_21, s25_22, s25_25, s25_26, s25_29, s25_30, s25_31, s25_32, s25_35, s25_36, s25_39, s25_40, s25_41, s25_42, s25_45, s25_46, s25_47, s25_50, s25_51, s25_54, s25_55, s25_56, s25_57, s25_60, s25_61, s25_62, s25_63, s25_66, s25_67, s25_68, s25_71, s25_72, s25_75, s25_76, s25_77, s25_78, s25_81, s25_82, s25_83, s25_86, s25_87, s25_90, s25_91, s25_92, s25_93, s25_94, s25_97, s25_98, s25_101, s25_102, g28_4, A33, g28_1, A30, az_ex, az_bk0, az_bk1, az_bkx, az_cat0, az_cati, az_catr, az_catl, az_vi, az_vr, az_bo0, az_bo1, az_boi, true_and, and_true, if_true, if_false, ne_eq, not_true_eq_false, not_false_eq_true, List.set_cons_zero, List.set_cons_succ, Nat.reduceAdd, Nat.reduceLeDiff, Nat.reduceEqDiff, ↓reduceIte, reduceCtorEq, Nat.reduceSub, Nat.reduceMul, Int32.reduceLT, Int32.reduceLE, Int32.reduceAdd, Int32.reduceMul, Int32.reduceSub, az_ne10, az_ne20, az_ne30, Nat.zero_le, f1, f2, f3, nI_clamp (show a < 2 ^ 31 by omega), nI_clamp (show b < 2 ^ 31 by omega), h1, h2, h3, decide_false, Bool.false_eq_true, show (b ≤ a) = True by simp; omega]
    · by_cases h3 : I 30 b < I 30 a
      · simp (maxDischargeDepth := 7) only [C25, th25, s25_0, s25_1, s25_4, s25_5, s25_6, s25_7, s25_10, s25_11, s25_12, s25_15, s25_16, s25_19, s25_20, s25_21, s25_22, s25_25, s25_26, s25_29, s25_30, s25_31, s25_32, s25_35, s25_36, s25_39, s25_40, s25_41, s25_42, s25_45, s25_46, s25_47, s25_50, s25_51, s25_54, s25_55, s25_56, s25_57, s25_60, s25_61, s25_62, s25_63, s25_66, s25_67, s25_68, s25_71, s25_72, s25_75, s25_76, s25_77, s25_78, s25_81, s25_82, s25_83, s25_86, s25_87, s25_90, s25_91, s25_92, s25_93, s25_94, s25_97, s25_98, s25_101, s25_102, g28_4, A33, g28_1, A30, az_ex, az_bk0, az_bk1, az_bkx, az_cat0, az_cati, az_catr, az_catl, az_vi, az_vr, az_bo0, az_bo1, az_boi, true_and, and_true, if_true, if_false, ne_eq, not_true_eq_false, not_false_eq_true, List.set_cons_zero, List.set_cons_succ, Nat.reduceAdd, Nat.reduceLeDiff, Nat.reduceEqDiff, ↓reduceIte, reduceCtorEq, Nat.reduceSub, Nat.reduceMul, Int32.reduceLT, Int32.reduceLE, Int32.reduceAdd, Int32.reduceMul, Int32.reduceSub, az_ne10, az_ne20, az_ne30, Nat.zero_le, f1, f2, f3, nI_clamp (show a < 2 ^ 31 by omega), nI_clamp (show b < 2 ^ 31 by omega), h1, h2, h3, decide_true, bz_nlt]
      · simp (maxDischargeDepth := 7) only [C25, th25, s25_0, s25_1, s25_4, s25_5, s25_6, s25_7, s25_10, s25_11, s25_12, s25_15, s25_16, s25_19, s25_20, s25_21, s25_22, s25_25, s25_26, s25_29, s25_30, s25_31, s25_32, s25_35, s25_36, s25_39, s25_40, s25_41, s25_42, s25_45, s25_46, s25_47, s25_50, s25_51, s25_54, s25_55, s25_56, s25_57, s25_60, s25_61, s25_62, s25_63, s25_66, s25_67, s25_68, s25_71, s25_72, s25_75, s25_76, s25_77, s25_78, s25_81, s25_82, s25_83, s25_86, s25_87, s25_90, s25_91, s25_92, s25_93, s25_94, s25_97, s25_98, s25_101, s25_102, g28_4, A33, g28_1, A30, az_ex, az_bk0, az_bk1, az_bkx, az_cat0, az_cati, az_catr, az_catl, az_vi, az_vr, az_bo0, az_bo1, az_boi, true_and, and_true, if_true, if_false, ne_eq, not_true_eq_false, not_false_eq_true, List.set_cons_zero, List.set_cons_succ, Nat.reduceAdd, Nat.reduceLeDiff, Nat.reduceEqDiff, ↓reduceIte, reduceCtorEq, Nat.reduceSub, Nat.reduceMul, Int32.reduceLT, Int32.reduceLE, Int32.reduceAdd, Int32.reduceMul, Int32.reduceSub, az_ne10, az_ne20, az_ne30, Nat.zero_le, f1, f2, f3, nI_clamp (show a < 2 ^ 31 by omega), nI_clamp (show b < 2 ^ 31 by omega), h1, h2, h3, decide_false, Bool.false_eq_true, bz_nlt]
  · have hq2 : (az_nv (I 33 a) = az_nv (I 33 b)) = False := eq_false fun h => h1 (hq.mp h)
    simp only [hq2, if_false]
    rcases hEb with h2 | ⟨e2, he2, h2⟩
    · rcases hEa with h3 | ⟨e3, he3, h3⟩
      · exact absurd (h3.trans h2.symm) h1
      · have h4 := (az_nv_lt he3).1
        simp (maxDischargeDepth := 7) only [C25, th25, s25_0, s25_1, s25_4, s25_5, s25_6, s25_7, s25_10, s25_11, s25_12, s25_15, s25_16, s25_19, s25_20, s25_21, s25_22, s25_25, s25_26, s25_29, s25_30, s25_31, s25_32, s25_35, s25_36, s25_39, s25_40, s25_41, s25_42, s25_45, s25_46, s25_47, s25_50, s25_51, s25_54, s25_55, s25_56, s25_57, s25_60, s25_61, s25_62, s25_63, s25_66, s25_67, s25_68, s25_71, s25_72, s25_75, s25_76, s25_77, s25_78, s25_81, s25_82, s25_83, s25_86, s25_87, s25_90, s25_91, s25_92, s25_93, s25_94, s25_97, s25_98, s25_101, s25_102, g28_4, A33, g28_1, A30, az_ex, az_bk0, az_bk1, az_bkx, az_cat0, az_cati, az_catr, az_catl, az_vi, az_vr, az_bo0, az_bo1, az_boi, true_and, and_true, if_true, if_false, ne_eq, not_true_eq_false, not_false_eq_true, List.set_cons_zero, List.set_cons_succ, Nat.reduceAdd, Nat.reduceLeDiff, Nat.reduceEqDiff, ↓reduceIte, reduceCtorEq, Nat.reduceSub, Nat.reduceMul, Int32.reduceLT, Int32.reduceLE, Int32.reduceAdd, Int32.reduceMul, Int32.reduceSub, az_ne10, az_ne20, az_ne30, Nat.zero_le, f1, f2, f3, nI_clamp (show a < 2 ^ 31 by omega), nI_clamp (show b < 2 ^ 31 by omega), h2, h3, az_nv1, az_nvn he3, bz_n2 he3, h4, decide_true]
    · rcases hEa with h3 | ⟨e3, he3, h3⟩
      · have h4 := (az_nv_lt he2).2
        have h5 : ((-1 : Int32) = nI e2) = False := eq_false fun h => by have := bz_n2 he2; rw [this.symm.symm] at *; exact (bz_n2 he2).mp h.symm
        simp (maxDischargeDepth := 7) only [C25, th25, s25_0, s25_1, s25_4, s25_5, s25_6, s25_7, s25_10, s25_11, s25_12, s25_15, s25_16, s25_19, s25_20, s25_21, s25_22, s25_25, s25_26, s25_29, s25_30, s25_31, s25_32, s25_35, s25_36, s25_39, s25_40, s25_41, s25_42, s25_45, s25_46, s25_47, s25_50, s25_51, s25_54, s25_55, s25_56, s25_57, s25_60, s25_61, s25_62, s25_63, s25_66, s25_67, s25_68, s25_71, s25_72, s25_75, s25_76, s25_77, s25_78, s25_81, s25_82, s25_83, s25_86, s25_87, s25_90, s25_91, s25_92, s25_93, s25_94, s25_97, s25_98, s25_101, s25_102, g28_4, A33, g28_1, A30, az_ex, az_bk0, az_bk1, az_bkx, az_cat0, az_cati, az_catr, az_catl, az_vi, az_vr, az_bo0, az_bo1, az_boi, true_and, and_true, if_true, if_false, ne_eq, not_true_eq_false, not_false_eq_true, List.set_cons_zero, List.set_cons_succ, Nat.reduceAdd, Nat.reduceLeDiff, Nat.reduceEqDiff, ↓reduceIte, reduceCtorEq, Nat.reduceSub, Nat.reduceMul, Int32.reduceLT, Int32.reduceLE, Int32.reduceAdd, Int32.reduceMul, Int32.reduceSub, az_ne10, az_ne20, az_ne30, Nat.zero_le, f1, f2, f3, nI_clamp (show a < 2 ^ 31 by omega), nI_clamp (show b < 2 ^ 31 by omega), h2, h3, h5, az_nv1, az_nvn he2, bz_n2 he2, h4, decide_false, Bool.false_eq_true]
      · have h5 : (nI e3 = nI e2) = False := eq_false fun h => h1 (by rw [h2, h3, h])
        by_cases h4 : nI e3 < nI e2
        · simp (maxDischargeDepth := 7) only [C25, th25, s25_0, s25_1, s25_4, s25_5, s25_6, s25_7, s25_10, s25_11, s25_12, s25_15, s25_16, s25_19, s25_20, s25_21, s25_22, s25_25, s25_26, s25_29, s25_30, s25_31, s25_32, s25_35, s25_36, s25_39, s25_40, s25_41, s25_42, s25_45, s25_46, s25_47, s25_50, s25_51, s25_54, s25_55, s25_56, s25_57, s25_60, s25_61, s25_62, s25_63, s25_66, s25_67, s25_68, s25_71, s25_72, s25_75, s25_76, s25_77, s25_78, s25_81, s25_82, s25_83, s25_86, s25_87, s25_90, s25_91, s25_92, s25_93, s25_94, s25_97, s25_98, s25_101, s25_102, g28_4, A33, g28_1, A30, az_ex, az_bk0, az_bk1, az_bkx, az_cat0, az_cati, az_catr, az_catl, az_vi, az_vr, az_bo0, az_bo1, az_boi, true_and, and_true, if_true, if_false, ne_eq, not_true_eq_false, not_false_eq_true, List.set_cons_zero, List.set_cons_succ, Nat.reduceAdd, Nat.reduceLeDiff, Nat.reduceEqDiff, ↓reduceIte, reduceCtorEq, Nat.reduceSub, Nat.reduceMul, Int32.reduceLT, Int32.reduceLE, Int32.reduceAdd, Int32.reduceMul, Int32.reduceSub, az_ne10, az_ne20, az_ne30, Nat.zero_le, f1, f2, f3, nI_clamp (show a < 2 ^ 31 by omega), nI_clamp (show b < 2 ^ 31 by omega), h2, h3, h5, az_nvn he2, az_nvn he3, bz_n2 he2, bz_n2 he3, h4, decide_true, bz_nlt]
        · simp (maxDischargeDepth := 7) only [C25, th25, s25_0, s25_1, s25_4, s25_5, s25_6, s25_7, s25_10, s25_11, s25_12, s25_15, s25_16, s25_19, s25_20, s25_21, s25_22, s25_25, s25_26, s25_29, s25_30, s25_31, s25_32, s25_35, s25_36, s25_39, s25_40, s25_41, s25_42, s25_45, s25_46, s25_47, s25_50, s25_51, s25_54, s25_55, s25_56, s25_57, s25_60, s25_61, s25_62, s25_63, s25_66, s25_67, s25_68, s25_71, s25_72, s25_75, s25_76, s25_77, s25_78, s25_81, s25_82, s25_83, s25_86, s25_87, s25_90, s25_91, s25_92, s25_93, s25_94, s25_97, s25_98, s25_101, s25_102, g28_4, A33, g28_1, A30, az_ex, az_bk0, az_bk1, az_bkx, az_cat0, az_cati, az_catr, az_catl, az_vi, az_vr, az_bo0, az_bo1, az_boi, true_and, and_true, if_true, if_false, ne_eq, not_true_eq_false, not_false_eq_true, List.set_cons_zero, List.set_cons_succ, Nat.reduceAdd, Nat.reduceLeDiff, Nat.reduceEqDiff, ↓reduceIte, reduceCtorEq, Nat.reduceSub, Nat.reduceMul, Int32.reduceLT, Int32.reduceLE, Int32.reduceAdd, Int32.reduceMul, Int32.reduceSub, az_ne10, az_ne20, az_ne30, Nat.zero_le, f1, f2, f3, nI_clamp (show a < 2 ^ 31 by omega), nI_clamp (show b < 2 ^ 31 by omega), h2, h3, h5, az_nvn he2, az_nvn he3, bz_n2 he2, bz_n2 he3, h4, decide_false, Bool.false_eq_true, bz_nlt]
end
