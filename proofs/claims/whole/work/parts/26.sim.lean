/-! the class's cells and the reference's cells say the same -/
theorem az_upe {I : Nat → Nat → Int32} {a b k : Nat} {x : Int32} : az_up I a k x b = if b = a then upd (I a) k x else I b := by
  by_cases h : b = a
  · subst h; rw [if_pos rfl, az_up_self]
  · rw [if_neg h, az_up_ne h]
theorem az_upje {J : Nat → Nat → Int64} {a k : Nat} {x : Int64} : az_upJ J a k x a k = x := by simp [az_upJ]
theorem upd_at {f : Nat → Int32} {k : Nat} {x : Int32} : upd f k x k = x := by simp [upd]
def az_prs : List (Nat × Nat) := [(2, 153), (3, 154), (4, 155), (6, 156), (7, 157), (8, 184), (9, 185), (10, 186), (11, 187), (12, 188), (13, 189), (19, 158), (20, 159), (21, 160), (22, 161), (23, 162), (24, 163), (25, 164), (26, 165), (27, 166), (29, 167), (30, 168), (31, 169), (32, 170), (37, 172), (38, 173), (39, 174), (107, 177), (110, 178), (108, 179), (109, 180)]
theorem az_lc0 {x y : Int32} : lg_cmp x.toInt64 y.toInt64 = 0 ↔ x = y := by
  unfold lg_cmp
  constructor
  · intro h
    split at h
    · cases h
    · split at h
      · rename_i h2
        have := congrArg Int64.toInt h2
        simp only [Int32.toInt_toInt64] at this
        exact Int32.toInt_inj.mp this
      · cases h
  · intro h
    subst h
    simp
def az_sc (xs : az_X) (i : Nat) : Prop := az_in (nI i) xs.1 = true ∧ az_in (nI i + 1) xs.1 = true ∧ az_in (nI i + 2) xs.1 = true ∧ az_in (nI i + 3) xs.1 = true ∧ az_in (nI i + 4) xs.1 = true
section
variable {xs : az_X} {d : Nat} {S : List az_Shp} {I : Nat → Nat → Int32} {J : Nat → Nat → Int64} {c z : Nat} {G : az_G} {K : az_O → Prop}
theorem r90 {v a b : Int32} : az_C xs (d + 1) 90 [.int v, .int a, .int b] G K ↔ K (0, some (.int (if a ≤ v ∧ v ≤ b then 1 else 0)), G) := by
  have e1 : v < a ↔ v.toInt < a.toInt := Int32.lt_iff_toInt_lt
  have e2 : a ≤ v ↔ a.toInt ≤ v.toInt := Int32.le_iff_toInt_le
  have e3 : v ≤ b ↔ v.toInt ≤ b.toInt := Int32.le_iff_toInt_le
  have e4 : b < v ↔ b.toInt < v.toInt := Int32.lt_iff_toInt_lt
  simp (maxDischargeDepth := 7) only [C90, th90, s90_0, s90_1, s90_2, s90_5, s90_6, s90_7, s90_10, s90_11, s90_14, s90_15, az_ex, az_bk0, az_bk1, az_bkx, az_cat0, az_cati, az_catr, az_catl, az_vi, az_vr, az_bo0, az_bo1, az_boi, true_and, and_true, if_true, if_false, ne_eq, not_true_eq_false, not_false_eq_true, List.set_cons_zero, List.set_cons_succ, Nat.reduceAdd, Nat.reduceLeDiff, Nat.reduceEqDiff, reduceIte, reduceCtorEq, Nat.reduceSub, Nat.reduceMul, Int32.reduceLT, Int32.reduceLE, Int32.reduceAdd, Int32.reduceMul, Int32.reduceSub, az_ne10, az_ne20, az_ne30, Nat.zero_le]
  by_cases h1 : a.toInt ≤ v.toInt <;> by_cases h2 : v.toInt ≤ b.toInt <;> simp (config := { failIfUnchanged := false }) only [e1, e2, e3, e4, h1, h2, Int.not_lt, Int.not_le, and_self, and_true, true_and, and_false, false_and, if_true, if_false, Int.lt_iff_add_one_le] <;> (repeat' split) <;> first | rfl | (exfalso; omega)
theorem az_in_le {k : Int32} {n : Nat} (hn : n < 2 ^ 30) : (0 ≤ k ∧ k ≤ nI n) ↔ az_in k (n + 1) = true := by
  rw [az_int, Int32.le_iff_toInt_le, Int32.le_iff_toInt_le, nI_toInt (by omega)]
  have : (0 : Int32).toInt = 0 := rfl
  rw [this]
  omega
theorem az_in_lm {k : Int32} {n : Nat} (hn : n < 2 ^ 30) : (0 ≤ k ∧ k ≤ nI n - 1) ↔ az_in k n = true := by
  cases n with
  | zero =>
    rw [az_int, Int32.le_iff_toInt_le, Int32.le_iff_toInt_le]
    have e1 : (0 : Int32).toInt = 0 := rfl
    have e2 : (nI 0 - 1).toInt = -1 := by decide
    rw [e1, e2]
    constructor <;> (intro h; exfalso; omega)
  | succ m => rw [nI_pred, az_in_le (by omega)]
theorem r91 {k : Int32} : az_C xs (d + 2) 91 [.int k] G K ↔ K (0, some (.int (if az_in k 3 = true then 1 else 0)), G) := by
  simp (maxDischargeDepth := 7) only [C91, th91, s91_0, s91_1, s91_2, s91_3, s91_6, cc90, az_ex, az_bk0, az_bk1, az_bkx, az_cat0, az_cati, az_catr, az_catl, az_vi, az_vr, az_bo0, az_bo1, az_boi, true_and, and_true, if_true, if_false, ne_eq, not_true_eq_false, not_false_eq_true, List.set_cons_zero, List.set_cons_succ, Nat.reduceAdd, Nat.reduceLeDiff, Nat.reduceEqDiff, reduceIte, reduceCtorEq, Nat.reduceSub, Nat.reduceMul, Int32.reduceLT, Int32.reduceLE, Int32.reduceAdd, Int32.reduceMul, Int32.reduceSub, az_ne10, az_ne20, az_ne30, Nat.zero_le, r90]
  have h := az_in_le (k := k) (n := 2) (by decide)
  have e : nI 2 = 2 := rfl
  rw [e] at h
  simp only [h]
theorem r92 {k : Int32} : az_C xs (d + 2) 92 [.int k] G K ↔ K (0, some (.int (if az_in k 4 = true then 1 else 0)), G) := by
  simp (maxDischargeDepth := 7) only [C92, th92, s92_0, s92_1, s92_2, s92_3, s92_6, cc90, az_ex, az_bk0, az_bk1, az_bkx, az_cat0, az_cati, az_catr, az_catl, az_vi, az_vr, az_bo0, az_bo1, az_boi, true_and, and_true, if_true, if_false, ne_eq, not_true_eq_false, not_false_eq_true, List.set_cons_zero, List.set_cons_succ, Nat.reduceAdd, Nat.reduceLeDiff, Nat.reduceEqDiff, reduceIte, reduceCtorEq, Nat.reduceSub, Nat.reduceMul, Int32.reduceLT, Int32.reduceLE, Int32.reduceAdd, Int32.reduceMul, Int32.reduceSub, az_ne10, az_ne20, az_ne30, Nat.zero_le, r90]
  have h := az_in_le (k := k) (n := 3) (by decide)
  have e : nI 3 = 3 := rfl
  rw [e] at h
  simp only [h]
theorem r93 {k : Int32} {n : Nat} (hn : n < 2 ^ 30) (h7 : I 152 7 = nI n) : az_C xs (d + 2) 93 [.ref 152, .int k] (az_S, I, J, c, z) K ↔ K (0, some (.int (if az_in k n = true then 1 else 0)), (az_S, I, J, c, z)) := by
  simp (maxDischargeDepth := 7) only [C93, th93, s93_0, s93_1, s93_2, s93_3, s93_6, s93_7, s93_8, s93_11, g152_7, cc90, az_ex, az_bk0, az_bk1, az_bkx, az_cat0, az_cati, az_catr, az_catl, az_vi, az_vr, az_bo0, az_bo1, az_boi, true_and, and_true, if_true, if_false, ne_eq, not_true_eq_false, not_false_eq_true, List.set_cons_zero, List.set_cons_succ, Nat.reduceAdd, Nat.reduceLeDiff, Nat.reduceEqDiff, reduceIte, reduceCtorEq, Nat.reduceSub, Nat.reduceMul, Int32.reduceLT, Int32.reduceLE, Int32.reduceAdd, Int32.reduceMul, Int32.reduceSub, az_ne10, az_ne20, az_ne30, Nat.zero_le, r90, h7, az_in_lm hn]
theorem r94 {k : Int32} {n : Nat} (hn : n < 2 ^ 30) (h7 : I 152 17 = nI n) : az_C xs (d + 2) 94 [.ref 152, .int k] (az_S, I, J, c, z) K ↔ K (0, some (.int (if az_in k n = true then 1 else 0)), (az_S, I, J, c, z)) := by
  simp (maxDischargeDepth := 7) only [C94, th94, s94_0, s94_1, s94_2, s94_3, s94_6, s94_7, s94_8, s94_11, g152_17, cc90, az_ex, az_bk0, az_bk1, az_bkx, az_cat0, az_cati, az_catr, az_catl, az_vi, az_vr, az_bo0, az_bo1, az_boi, true_and, and_true, if_true, if_false, ne_eq, not_true_eq_false, not_false_eq_true, List.set_cons_zero, List.set_cons_succ, Nat.reduceAdd, Nat.reduceLeDiff, Nat.reduceEqDiff, reduceIte, reduceCtorEq, Nat.reduceSub, Nat.reduceMul, Int32.reduceLT, Int32.reduceLE, Int32.reduceAdd, Int32.reduceMul, Int32.reduceSub, az_ne10, az_ne20, az_ne30, Nat.zero_le, r90, h7, az_in_lm hn]
theorem r95 {k : Int32} {n : Nat} (hn : n < 2 ^ 30) (h7 : I 152 23 = nI n) : az_C xs (d + 2) 95 [.ref 152, .int k] (az_S, I, J, c, z) K ↔ K (0, some (.int (if az_in k n = true then 1 else 0)), (az_S, I, J, c, z)) := by
  simp (maxDischargeDepth := 7) only [C95, th95, s95_0, s95_1, s95_2, s95_3, s95_6, s95_7, s95_8, s95_11, g152_23, cc90, az_ex, az_bk0, az_bk1, az_bkx, az_cat0, az_cati, az_catr, az_catl, az_vi, az_vr, az_bo0, az_bo1, az_boi, true_and, and_true, if_true, if_false, ne_eq, not_true_eq_false, not_false_eq_true, List.set_cons_zero, List.set_cons_succ, Nat.reduceAdd, Nat.reduceLeDiff, Nat.reduceEqDiff, reduceIte, reduceCtorEq, Nat.reduceSub, Nat.reduceMul, Int32.reduceLT, Int32.reduceLE, Int32.reduceAdd, Int32.reduceMul, Int32.reduceSub, az_ne10, az_ne20, az_ne30, Nat.zero_le, r90, h7, az_in_lm hn]
theorem r96 {k : Int32} {n : Nat} (hn : n < 2 ^ 30) (h7 : I 152 31 = nI n) : az_C xs (d + 2) 96 [.ref 152, .int k] (az_S, I, J, c, z) K ↔ K (0, some (.int (if az_in k n = true then 1 else 0)), (az_S, I, J, c, z)) := by
  simp (maxDischargeDepth := 7) only [C96, th96, s96_0, s96_1, s96_2, s96_3, s96_6, s96_7, s96_8, s96_11, g152_31, cc90, az_ex, az_bk0, az_bk1, az_bkx, az_cat0, az_cati, az_catr, az_catl, az_vi, az_vr, az_bo0, az_bo1, az_boi, true_and, and_true, if_true, if_false, ne_eq, not_true_eq_false, not_false_eq_true, List.set_cons_zero, List.set_cons_succ, Nat.reduceAdd, Nat.reduceLeDiff, Nat.reduceEqDiff, reduceIte, reduceCtorEq, Nat.reduceSub, Nat.reduceMul, Int32.reduceLT, Int32.reduceLE, Int32.reduceAdd, Int32.reduceMul, Int32.reduceSub, az_ne10, az_ne20, az_ne30, Nat.zero_le, r90, h7, az_in_lm hn]
theorem r89 {p : Int32} : az_C xs (d + 1) 89 [.ref 152, .int p] (az_S, I, J, c, z) K ↔ K (0, some (.int (if p = 0 then 1 else 0)), (az_S, az_up I 152 0 p, J, c, z)) := by
  simp (maxDischargeDepth := 7) only [C89, th89, s89_0, s89_1, s89_2, s89_5, s89_6, s89_9, s89_10, s89_13, s89_14, p152_0, az_ex, az_bk0, az_bk1, az_bkx, az_cat0, az_cati, az_catr, az_catl, az_vi, az_vr, az_bo0, az_bo1, az_boi, true_and, and_true, if_true, if_false, ne_eq, not_true_eq_false, not_false_eq_true, List.set_cons_zero, List.set_cons_succ, Nat.reduceAdd, Nat.reduceLeDiff, Nat.reduceEqDiff, reduceIte, reduceCtorEq, Nat.reduceSub, Nat.reduceMul, Int32.reduceLT, Int32.reduceLE, Int32.reduceAdd, Int32.reduceMul, Int32.reduceSub, az_ne10, az_ne20, az_ne30, Nat.zero_le]
  split <;> simp (maxDischargeDepth := 7) only [az_ex, az_bk0, az_bk1, az_bkx, az_cat0, az_cati, az_catr, az_catl, az_vi, az_vr, az_bo0, az_bo1, az_boi, true_and, and_true, if_true, if_false, ne_eq, not_true_eq_false, not_false_eq_true, List.set_cons_zero, List.set_cons_succ, Nat.reduceAdd, Nat.reduceLeDiff, Nat.reduceEqDiff, reduceIte, reduceCtorEq, Nat.reduceSub, Nat.reduceMul, Int32.reduceLT, Int32.reduceLE, Int32.reduceAdd, Int32.reduceMul, Int32.reduceSub, az_ne10, az_ne20, az_ne30, Nat.zero_le, *]
theorem r88 : az_C xs (d + 1) 88 [.ref 152] (az_S, I, J, c, z) K ↔ K (0, some (.int (I 152 0)), (az_S, I, J, c, z)) := by
  simp (maxDischargeDepth := 7) only [C88, th88, s88_0, s88_1, s88_4, g152_0, az_ex, az_bk0, az_bk1, az_bkx, az_cat0, az_cati, az_catr, az_catl, az_vi, az_vr, az_bo0, az_bo1, az_boi, true_and, and_true, if_true, if_false, ne_eq, not_true_eq_false, not_false_eq_true, List.set_cons_zero, List.set_cons_succ, Nat.reduceAdd, Nat.reduceLeDiff, Nat.reduceEqDiff, reduceIte, reduceCtorEq, Nat.reduceSub, Nat.reduceMul, Int32.reduceLT, Int32.reduceLE, Int32.reduceAdd, Int32.reduceMul, Int32.reduceSub, az_ne10, az_ne20, az_ne30, Nat.zero_le]
theorem op1 {i : Nat} {o5 o6 : Option Value} {L : az_Ls} (hL : L = [some (.ref az_scr), some (.ref 0), some (.ref 152), some (.ref 191), some (.int (nI i)), o5, o6]) (hs : az_sc xs i) (he : I 7 = I 157)
    (hK : ∀ (o5 o6 : Option Value) (I' : Nat → Nat → Int32) (J' : Nat → Nat → Int64) (c' z' : Nat), I' 7 = I' 157 → az_W xs 30 171 2058 [some (.ref az_scr), some (.ref 0), some (.ref 152), some (.ref 191), some (.int (nI i)), o5, o6] [] (az_S, I', J', c', z') K) :
    az_W xs 30 171 256 L [] (az_S, I, J, c, z) K := by
  obtain ⟨h0, h1, h2, h3, h4⟩ := hs
  subst hL
  simp (maxDischargeDepth := 7) only [s171_256, s171_257, s171_258, s171_260, s171_261, s171_262, s171_263, s171_264, s171_266, s171_267, s171_268, s171_269, s171_270, s171_273, s171_275, s171_276, s171_277, s171_279, s171_280, s171_281, s171_282, s171_283, s171_285, s171_286, s171_287, s171_288, s171_291, s171_293, s171_294, s171_297, s171_299, s171_302, s171_303, s171_304, s171_306, s171_309, s171_310, s171_311, s171_312, s171_314, s171_315, s171_316, s171_319, s171_320, s171_321, cc145, cc98, cc88, C145, s145_0, s145_1, s145_2, s145_3, s145_4, s145_5, s145_8, s145_9, s145_10, s145_13, s145_15, s145_16, s145_17, s145_19, s145_20, s145_21, s145_22, cc42, C42, th42, s42_0, s42_1, s42_2, s42_5, s42_6, s42_7, s42_9, s42_12, s42_13, s42_16, s42_19, s42_20, s42_21, s42_22, s42_23, s42_26, s42_29, s42_30, s42_31, s42_32, s42_33, cc69, cc70, g0_1, g5_1, A7, C98, th98, s98_0, s98_1, s98_2, s98_5, s98_8, s98_9, s98_12, s98_13, s98_14, s98_16, s98_19, s98_22, s98_23, s98_26, s98_27, s98_30, s98_33, s98_34, s98_35, s98_36, s98_39, s98_40, s98_41, s98_42, s98_43, s98_46, s98_47, s98_48, s98_49, s98_50, cc92, cc90, cc89, g152_6, A157, th145_1, th145_2, az_ex, az_bk0, az_bk1, az_bkx, az_cat0, az_cati, az_catr, az_catl, az_vi, az_vr, az_bo0, az_bo1, az_boi, true_and, and_true, if_true, if_false, ne_eq, not_true_eq_false, not_false_eq_true, List.set_cons_zero, List.set_cons_succ, Nat.reduceAdd, Nat.reduceLeDiff, Nat.reduceEqDiff, reduceIte, reduceCtorEq, Nat.reduceSub, Nat.reduceMul, Int32.reduceLT, Int32.reduceLE, Int32.reduceAdd, Int32.reduceMul, Int32.reduceSub, az_ne10, az_ne20, az_ne30, Nat.zero_le, c69_4, c70, r88, r89, r90, r92, h1, h2, ite_not, az_i0]
  trace_state
  sorry
end
