/-! the class's row, the reference's first one -/
theorem pir_val {lt : Nat → Nat → Bool} {x : Nat} {V : Int32 → Prop} : ∀ (p : Nat) (f : Nat → Int32), (∀ q, q < p → V (f q)) → V (nI x) → ∀ q, q < p + 1 → V (pir lt x p f q) := by
  intro p
  induction p with
  | zero =>
    intro f _ hx q hq
    unfold pir
    rw [upde, if_pos (by omega)]
    exact hx
  | succ p ih =>
    intro f hf hx q hq
    unfold pir
    split
    · by_cases h : q = p + 1
      · rw [pir_out _ _ _ (by omega), upde, if_pos h]
        exact hf p (by omega)
      · refine ih _ (fun q hq => ?_) hx q (by omega)
        rw [upde, if_neg (by omega)]
        exact hf q (by omega)
    · rw [upde]
      split
      · exact hx
      · exact hf q (by omega)
theorem bz_m1 {p : Nat} : nI (p + 1) + -1 = nI p := by
  rw [← nI_pred p, Int32.sub_eq_add_neg]
theorem bz_00 : (nI 0 ≤ 0) = True := by decide
theorem bz_s0 {p : Nat} (hp : p + 1 < 2 ^ 31) : (nI (p + 1) ≤ 0) = False := by
  rw [show (0 : Int32) = nI 0 from rfl, bz_le hp (by omega)]
  simp
section
variable {xs : az_X} {d : Nat} {nl c z : Nat} {I : Nat → Nat → Int32} {J : Nat → Nat → Int64} {K : az_O → Prop}
theorem c26l {x : Nat} (hn : nl ≤ 60) (hx : x < nl) (hE : ∀ j, j < nl → az_eb (I 33 j)) : ∀ (p : Nat) (h : Int32) (f : Nat → Int32), p < 60 → (∀ q, q < p → ∃ y, y < nl ∧ f q = nI y) → (az_W xs (d + 1) 26 2 [some (.ref 28), some (.int (nI x)), some (.int h), some (.int (nI p))] [] (az_S, az_set I 34 f, J, c, z) K ↔ K (0, none, (az_S, az_set I 34 (pir (ltb (fun j => az_nv (I 33 j)) (I 30)) x p f), J, c, z))) := by
  intro p
  induction p with
  | zero =>
    intro h f _ _
    refine Iff.trans s26_2 ?_
    simp (maxDischargeDepth := 7) only [C26, th26, s26_0, s26_1, s26_3, s26_6, s26_7, s26_8, s26_9, s26_12, s26_13, s26_14, s26_15, s26_16, s26_19, s26_22, s26_23, s26_26, s26_27, s26_28, s26_31, s26_32, s26_33, s26_34, s26_35, s26_36, s26_39, s26_42, s26_43, s26_46, s26_47, s26_48, s26_49, g28_5, A34, cc25, az_ex, az_bk0, az_bk1, az_bkx, az_cat0, az_cati, az_catr, az_catl, az_vi, az_vr, az_bo0, az_bo1, az_boi, true_and, and_true, if_true, if_false, ne_eq, not_true_eq_false, not_false_eq_true, List.set_cons_zero, List.set_cons_succ, Nat.reduceAdd, Nat.reduceLeDiff, Nat.reduceEqDiff, ↓reduceIte, reduceCtorEq, Nat.reduceSub, Nat.reduceMul, Int32.reduceLT, Int32.reduceLE, Int32.reduceAdd, Int32.reduceMul, Int32.reduceSub, az_ne10, az_ne20, az_ne30, Nat.zero_le, bz_00, nI_clamp (show 0 < 2 ^ 31 by omega), show az_in (nI 0) 60 = true by decide, az_set_up]
    exact Iff.rfl
  | succ p ih =>
    intro h f hp hf
    obtain ⟨y, hy, hfy⟩ := hf p (by omega)
    have f1 : az_in (nI (p + 1)) 60 = true := by rw [az_in_nI (by omega)]; simp; omega
    have f2 : az_in (nI p) 60 = true := by rw [az_in_nI (by omega)]; simp; omega
    have q : ∀ K' : az_O → Prop, az_C xs (d + 1) 25 [.ref 28, .int (nI x), .int (nI y)] (az_S, az_set I 34 f, J, c, z) K' ↔ K' (0, some (.int (if ltb (fun j => az_nv (I 33 j)) (I 30) x y = true then 1 else 0)), (az_S, az_set I 34 f, J, c, z)) := fun K' => by
      have := c25 (xs := xs) (d := d) (J := J) (c := c) (z := z) (I := az_set I 34 f) (K := K') (show x < 60 by omega) (show y < 60 by omega) (by simpa [az_sete] using hE x hx) (by simpa [az_sete] using hE y hy)
      simpa [az_sete] using this
    refine Iff.trans s26_2 ?_
    have e9 : pir (ltb (fun j => az_nv (I 33 j)) (I 30)) x (p + 1) f = if ltb (fun j => az_nv (I 33 j)) (I 30) x y = true then pir (ltb (fun j => az_nv (I 33 j)) (I 30)) x p (upd f (p + 1) (f p)) else upd f (p + 1) (nI x) := by
      show (if ltb (fun j => az_nv (I 33 j)) (I 30) x (f p).toNatClampNeg = true then _ else _) = _
      rw [hfy, nI_clamp (show y < 2 ^ 31 by omega)]
    rw [e9]
    by_cases hlt : ltb (fun j => az_nv (I 33 j)) (I 30) x y = true
    · simp (maxDischargeDepth := 7) only [C26, th26, s26_0, s26_1, s26_3, s26_6, s26_7, s26_8, s26_9, s26_12, s26_13, s26_14, s26_15, s26_16, s26_19, s26_22, s26_23, s26_26, s26_27, s26_28, s26_31, s26_32, s26_33, s26_34, s26_35, s26_36, s26_39, s26_42, s26_43, s26_46, s26_47, s26_48, s26_49, g28_5, A34, cc25, az_ex, az_bk0, az_bk1, az_bkx, az_cat0, az_cati, az_catr, az_catl, az_vi, az_vr, az_bo0, az_bo1, az_boi, true_and, and_true, if_true, if_false, ne_eq, not_true_eq_false, not_false_eq_true, List.set_cons_zero, List.set_cons_succ, Nat.reduceAdd, Nat.reduceLeDiff, Nat.reduceEqDiff, ↓reduceIte, reduceCtorEq, Nat.reduceSub, Nat.reduceMul, Int32.reduceLT, Int32.reduceLE, Int32.reduceAdd, Int32.reduceMul, Int32.reduceSub, az_ne10, az_ne20, az_ne30, Nat.zero_le, bz_s0 (show p + 1 < 2 ^ 31 by omega), nI_pred, bz_m1, az_sete, hfy, q, hlt, f1, f2, nI_clamp (show p < 2 ^ 31 by omega), nI_clamp (show p + 1 < 2 ^ 31 by omega), az_set_up, az_q0_1, az_q0_2, az_q0_3, az_q0_4, az_q0_5, az_q0_6, az_q0_7, az_q0_8, az_q1_0, az_q1_2, az_q1_3, az_q1_4, az_q1_5, az_q1_6, az_q1_7, az_q1_8, az_q2_0, az_q2_1, az_q2_3, az_q2_4, az_q2_5, az_q2_6, az_q2_7, az_q2_8, az_q3_0, az_q3_1, az_q3_2, az_q3_4, az_q3_5, az_q3_6, az_q3_7, az_q3_8, az_q4_0, az_q4_1, az_q4_2, az_q4_3, az_q4_5, az_q4_6, az_q4_7, az_q4_8, az_q5_0, az_q5_1, az_q5_2, az_q5_3, az_q5_4, az_q5_6, az_q5_7, az_q5_8, az_q6_0, az_q6_1, az_q6_2, az_q6_3, az_q6_4, az_q6_5, az_q6_7, az_q6_8, az_q7_0, az_q7_1, az_q7_2, az_q7_3, az_q7_4, az_q7_5, az_q7_6, az_q7_8, az_q8_0, az_q8_1, az_q8_2, az_q8_3, az_q8_4, az_q8_5, az_q8_6, az_q8_7, az_z10, az_z60, az_z100, az_z1000, az_z1001, az_z10000]
      have := ih h (upd f (p + 1) (f p)) (by omega) (fun q hq => by rw [upde, if_neg (by omega)]; exact hf q (by omega))
      rw [hfy] at this
      exact this
    · simp (maxDischargeDepth := 7) only [C26, th26, s26_0, s26_1, s26_3, s26_6, s26_7, s26_8, s26_9, s26_12, s26_13, s26_14, s26_15, s26_16, s26_19, s26_22, s26_23, s26_26, s26_27, s26_28, s26_31, s26_32, s26_33, s26_34, s26_35, s26_36, s26_39, s26_42, s26_43, s26_46, s26_47, s26_48, s26_49, g28_5, A34, cc25, az_ex, az_bk0, az_bk1, az_bkx, az_cat0, az_cati, az_catr, az_catl, az_vi, az_vr, az_bo0, az_bo1, az_boi, true_and, and_true, if_true, if_false, ne_eq, not_true_eq_false, not_false_eq_true, List.set_cons_zero, List.set_cons_succ, Nat.reduceAdd, Nat.reduceLeDiff, Nat.reduceEqDiff, ↓reduceIte, reduceCtorEq, Nat.reduceSub, Nat.reduceMul, Int32.reduceLT, Int32.reduceLE, Int32.reduceAdd, Int32.reduceMul, Int32.reduceSub, az_ne10, az_ne20, az_ne30, Nat.zero_le, bz_s0 (show p + 1 < 2 ^ 31 by omega), nI_pred, bz_m1, az_sete, hfy, q, hlt, f1, f2, nI_clamp (show p < 2 ^ 31 by omega), nI_clamp (show p + 1 < 2 ^ 31 by omega), az_set_up, az_q0_1, az_q0_2, az_q0_3, az_q0_4, az_q0_5, az_q0_6, az_q0_7, az_q0_8, az_q1_0, az_q1_2, az_q1_3, az_q1_4, az_q1_5, az_q1_6, az_q1_7, az_q1_8, az_q2_0, az_q2_1, az_q2_3, az_q2_4, az_q2_5, az_q2_6, az_q2_7, az_q2_8, az_q3_0, az_q3_1, az_q3_2, az_q3_4, az_q3_5, az_q3_6, az_q3_7, az_q3_8, az_q4_0, az_q4_1, az_q4_2, az_q4_3, az_q4_5, az_q4_6, az_q4_7, az_q4_8, az_q5_0, az_q5_1, az_q5_2, az_q5_3, az_q5_4, az_q5_6, az_q5_7, az_q5_8, az_q6_0, az_q6_1, az_q6_2, az_q6_3, az_q6_4, az_q6_5, az_q6_7, az_q6_8, az_q7_0, az_q7_1, az_q7_2, az_q7_3, az_q7_4, az_q7_5, az_q7_6, az_q7_8, az_q8_0, az_q8_1, az_q8_2, az_q8_3, az_q8_4, az_q8_5, az_q8_6, az_q8_7, az_z10, az_z60, az_z100, az_z1000, az_z1001, az_z10000]
theorem c26 {x p : Nat} {f : Nat → Int32} (hn : nl ≤ 60) (hx : x < nl) (hE : ∀ j, j < nl → az_eb (I 33 j)) (hp : p < 60) (hf : ∀ q, q < p → ∃ y, y < nl ∧ f q = nI y) : az_C xs (d + 2) 26 [.ref 28, .int (nI x), .int (nI p)] (az_S, az_set I 34 f, J, c, z) K ↔ K (0, none, (az_S, az_set I 34 (pir (ltb (fun j => az_nv (I 33 j)) (I 30)) x p f), J, c, z)) := by
  simp (maxDischargeDepth := 7) only [C26, th26, s26_0, s26_1, s26_3, s26_6, s26_7, s26_8, s26_9, s26_12, s26_13, s26_14, s26_15, s26_16, s26_19, s26_22, s26_23, s26_26, s26_27, s26_28, s26_31, s26_32, s26_33, s26_34, s26_35, s26_36, s26_39, s26_42, s26_43, s26_46, s26_47, s26_48, s26_49, g28_5, A34, cc25, az_ex, az_bk0, az_bk1, az_bkx, az_cat0, az_cati, az_catr, az_catl, az_vi, az_vr, az_bo0, az_bo1, az_boi, true_and, and_true, if_true, if_false, ne_eq, not_true_eq_false, not_false_eq_true, List.set_cons_zero, List.set_cons_succ, Nat.reduceAdd, Nat.reduceLeDiff, Nat.reduceEqDiff, ↓reduceIte, reduceCtorEq, Nat.reduceSub, Nat.reduceMul, Int32.reduceLT, Int32.reduceLE, Int32.reduceAdd, Int32.reduceMul, Int32.reduceSub, az_ne10, az_ne20, az_ne30, Nat.zero_le]
  exact c26l hn hx hE p _ f hp hf
def pOn (cd g : Nat → Int32) (x : Int32) (j : Nat) : Bool := decide (cd j = x ∧ 0 < g j)
theorem c27 {x : Int32} (hn : nl ≤ 60) (h7 : I 28 7 = nI nl) (hE : ∀ j, j < nl → az_eb (I 33 j)) : az_C xs (d + 3) 27 [.ref 28, .int x] (az_S, I, J, c, z) K ↔ K (0, some (.int (nI (fd (pio (ltb (fun j => az_nv (I 33 j)) (I 30)) (pOn (I 29) (I 31) x)) nl 0 (I 34, 0)).2)), (az_S, az_set I 34 (fd (pio (ltb (fun j => az_nv (I 33 j)) (I 30)) (pOn (I 29) (I 31) x)) nl 0 (I 34, 0)).1, J, c, z)) := by
  have hinv : ∀ j (s : (Nat → Int32) × Nat), j < nl → (s.2 ≤ j ∧ ∀ q, q < s.2 → ∃ y, y < nl ∧ s.1 q = nI y) → ((pio (ltb (fun j => az_nv (I 33 j)) (I 30)) (pOn (I 29) (I 31) x) j s).2 ≤ j + 1 ∧ ∀ q, q < (pio (ltb (fun j => az_nv (I 33 j)) (I 30)) (pOn (I 29) (I 31) x) j s).2 → ∃ y, y < nl ∧ (pio (ltb (fun j => az_nv (I 33 j)) (I 30)) (pOn (I 29) (I 31) x) j s).1 q = nI y) := by
    rintro j s hj ⟨h1, h2⟩
    unfold pio
    split
    · exact ⟨by dsimp only; omega, fun q hq => pir_val (V := fun v => ∃ y, y < nl ∧ v = nI y) s.2 s.1 h2 ⟨j, hj, rfl⟩ q hq⟩
    · exact ⟨by omega, h2⟩
  have step : ∀ j (s : (Nat → Int32) × Nat), j < nl → (s.2 ≤ j ∧ ∀ q, q < s.2 → ∃ y, y < nl ∧ s.1 q = nI y) → (az_W xs (d + 2) 27 4 [some (.ref 28), some (.int x), some (.int (nI s.2)), some (.int (nI j))] [] (az_S, az_set I 34 s.1, J, c, z) K ↔ az_W xs (d + 2) 27 4 [some (.ref 28), some (.int x), some (.int (nI (pio (ltb (fun j => az_nv (I 33 j)) (I 30)) (pOn (I 29) (I 31) x) j s).2)), some (.int (nI (j + 1)))] [] (az_S, az_set I 34 (pio (ltb (fun j => az_nv (I 33 j)) (I 30)) (pOn (I 29) (I 31) x) j s).1, J, c, z) K) := by
    rintro j s hj ⟨h1, h2⟩
    have f1 : az_in (nI j) 60 = true := by rw [az_in_nI (by omega)]; simp; omega
    have f2 : (nI nl ≤ nI j) = False := by rw [bz_le (by omega) (by omega)]; simp; omega
    refine Iff.trans s27_4 ?_
    unfold pio pOn
    by_cases hh : I 29 j = x
    · by_cases hg : 0 < I 31 j
      · simp (maxDischargeDepth := 7) only [C27, th27, s27_0, s27_1, s27_2, s27_3, s27_5, s27_6, s27_9, s27_12, s27_13, s27_16, s27_17, s27_18, s27_19, s27_22, s27_23, s27_26, s27_27, s27_28, s27_31, s27_32, s27_33, s27_34, s27_37, s27_40, s27_43, s27_46, s27_47, g28_7, g28_0, A29, g28_2, A31, cc26, az_ex, az_bk0, az_bk1, az_bkx, az_cat0, az_cati, az_catr, az_catl, az_vi, az_vr, az_bo0, az_bo1, az_boi, true_and, and_true, if_true, if_false, ne_eq, not_true_eq_false, not_false_eq_true, List.set_cons_zero, List.set_cons_succ, Nat.reduceAdd, Nat.reduceLeDiff, Nat.reduceEqDiff, ↓reduceIte, reduceCtorEq, Nat.reduceSub, Nat.reduceMul, Int32.reduceLT, Int32.reduceLE, Int32.reduceAdd, Int32.reduceMul, Int32.reduceSub, az_ne10, az_ne20, az_ne30, Nat.zero_le, az_sete, h7, f1, f2, hh, hg, bz_nlt, c26 hn hj hE (show s.2 < 60 by omega) h2, nI_1, nI_clamp (show j < 2 ^ 31 by omega), and_self, decide_true]
      · simp (maxDischargeDepth := 7) only [C27, th27, s27_0, s27_1, s27_2, s27_3, s27_5, s27_6, s27_9, s27_12, s27_13, s27_16, s27_17, s27_18, s27_19, s27_22, s27_23, s27_26, s27_27, s27_28, s27_31, s27_32, s27_33, s27_34, s27_37, s27_40, s27_43, s27_46, s27_47, g28_7, g28_0, A29, g28_2, A31, cc26, az_ex, az_bk0, az_bk1, az_bkx, az_cat0, az_cati, az_catr, az_catl, az_vi, az_vr, az_bo0, az_bo1, az_boi, true_and, and_true, if_true, if_false, ne_eq, not_true_eq_false, not_false_eq_true, List.set_cons_zero, List.set_cons_succ, Nat.reduceAdd, Nat.reduceLeDiff, Nat.reduceEqDiff, ↓reduceIte, reduceCtorEq, Nat.reduceSub, Nat.reduceMul, Int32.reduceLT, Int32.reduceLE, Int32.reduceAdd, Int32.reduceMul, Int32.reduceSub, az_ne10, az_ne20, az_ne30, Nat.zero_le, az_sete, h7, f1, f2, hh, hg, bz_nlt, nI_1, nI_clamp (show j < 2 ^ 31 by omega), and_false, decide_false, Bool.false_eq_true]
    · simp (maxDischargeDepth := 7) only [C27, th27, s27_0, s27_1, s27_2, s27_3, s27_5, s27_6, s27_9, s27_12, s27_13, s27_16, s27_17, s27_18, s27_19, s27_22, s27_23, s27_26, s27_27, s27_28, s27_31, s27_32, s27_33, s27_34, s27_37, s27_40, s27_43, s27_46, s27_47, g28_7, g28_0, A29, g28_2, A31, cc26, az_ex, az_bk0, az_bk1, az_bkx, az_cat0, az_cati, az_catr, az_catl, az_vi, az_vr, az_bo0, az_bo1, az_boi, true_and, and_true, if_true, if_false, ne_eq, not_true_eq_false, not_false_eq_true, List.set_cons_zero, List.set_cons_succ, Nat.reduceAdd, Nat.reduceLeDiff, Nat.reduceEqDiff, ↓reduceIte, reduceCtorEq, Nat.reduceSub, Nat.reduceMul, Int32.reduceLT, Int32.reduceLE, Int32.reduceAdd, Int32.reduceMul, Int32.reduceSub, az_ne10, az_ne20, az_ne30, Nat.zero_le, az_sete, h7, f1, f2, hh, nI_1, nI_clamp (show j < 2 ^ 31 by omega), false_and, decide_false, Bool.false_eq_true]
  simp (maxDischargeDepth := 7) only [C27, th27, s27_0, s27_1, s27_2, s27_3, s27_5, s27_6, s27_9, s27_12, s27_13, s27_16, s27_17, s27_18, s27_19, s27_22, s27_23, s27_26, s27_27, s27_28, s27_31, s27_32, s27_33, s27_34, s27_37, s27_40, s27_43, s27_46, s27_47, g28_7, g28_0, A29, g28_2, A31, cc26, az_ex, az_bk0, az_bk1, az_bkx, az_cat0, az_cati, az_catr, az_catl, az_vi, az_vr, az_bo0, az_bo1, az_boi, true_and, and_true, if_true, if_false, ne_eq, not_true_eq_false, not_false_eq_true, List.set_cons_zero, List.set_cons_succ, Nat.reduceAdd, Nat.reduceLeDiff, Nat.reduceEqDiff, ↓reduceIte, reduceCtorEq, Nat.reduceSub, Nat.reduceMul, Int32.reduceLT, Int32.reduceLE, Int32.reduceAdd, Int32.reduceMul, Int32.reduceSub, az_ne10, az_ne20, az_ne30, Nat.zero_le]
  have e0 : (az_S, I, J, c, z) = (az_S, az_set I 34 (I 34), J, c, z) := by rw [az_set_self]
  rw [e0]
  refine (az_loopI (W := fun j (s : (Nat → Int32) × Nat) => az_W xs (d + 2) 27 4 [some (.ref 28), some (.int x), some (.int (nI s.2)), some (.int (nI j))] [] (az_S, az_set I 34 s.1, J, c, z) K) hinv step nl 0 (I 34, 0) (Nat.zero_add _) ⟨Nat.le_refl _, fun q hq => absurd hq (by simp)⟩).trans ?_
  have f3 : (nI nl ≤ nI nl) = True := by rw [bz_le (by omega) (by omega)]; simp
  show az_W xs (d + 2) 27 4 _ _ _ _ ↔ _
  refine Iff.trans s27_4 ?_
  simp (maxDischargeDepth := 7) only [C27, th27, s27_0, s27_1, s27_2, s27_3, s27_5, s27_6, s27_9, s27_12, s27_13, s27_16, s27_17, s27_18, s27_19, s27_22, s27_23, s27_26, s27_27, s27_28, s27_31, s27_32, s27_33, s27_34, s27_37, s27_40, s27_43, s27_46, s27_47, g28_7, g28_0, A29, g28_2, A31, cc26, az_ex, az_bk0, az_bk1, az_bkx, az_cat0, az_cati, az_catr, az_catl, az_vi, az_vr, az_bo0, az_bo1, az_boi, true_and, and_true, if_true, if_false, ne_eq, not_true_eq_false, not_false_eq_true, List.set_cons_zero, List.set_cons_succ, Nat.reduceAdd, Nat.reduceLeDiff, Nat.reduceEqDiff, ↓reduceIte, reduceCtorEq, Nat.reduceSub, Nat.reduceMul, Int32.reduceLT, Int32.reduceLE, Int32.reduceAdd, Int32.reduceMul, Int32.reduceSub, az_ne10, az_ne20, az_ne30, Nat.zero_le, az_sete, h7, f3, az_set_self]
end
