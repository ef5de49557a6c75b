/-! questions with sums -/
theorem bz_w8 {w : Int32} (h : 0 ≤ w ∧ w ≤ 7) : w = 0 ∨ w = 1 ∨ w = 2 ∨ w = 3 ∨ w = 4 ∨ w = 5 ∨ w = 6 ∨ w = 7 := by
  obtain ⟨m, h1, h2, rfl⟩ := bz_rg (a := 0) (n := 7) (by omega) h (by omega)
  match m, h2 with
  | 0, _ => exact (by decide)
  | 1, _ => exact (by decide)
  | 2, _ => exact (by decide)
  | 3, _ => exact (by decide)
  | 4, _ => exact (by decide)
  | 5, _ => exact (by decide)
  | 6, _ => exact (by decide)
  | 7, _ => exact (by decide)
theorem bz_w9 {w : Int32} (h : 0 ≤ w ∧ w ≤ 8) : w = 0 ∨ w = 1 ∨ w = 2 ∨ w = 3 ∨ w = 4 ∨ w = 5 ∨ w = 6 ∨ w = 7 ∨ w = 8 := by
  obtain ⟨m, h1, h2, rfl⟩ := bz_rg (a := 0) (n := 8) (by omega) h (by omega)
  match m, h2 with
  | 0, _ => exact (by decide)
  | 1, _ => exact (by decide)
  | 2, _ => exact (by decide)
  | 3, _ => exact (by decide)
  | 4, _ => exact (by decide)
  | 5, _ => exact (by decide)
  | 6, _ => exact (by decide)
  | 7, _ => exact (by decide)
  | 8, _ => exact (by decide)
theorem fnet_split {ch f o g : Nat → Int32} {x : Int32} : ∀ n j a b c e, (∀ i, i < j + n → az_in (o i) 4 = true) → fd (fnet ch f g x) n j (0 + a + b + c + e) = 0 + fd (fclm ch f o g x 0) n j a + fd (fclm ch f o g x 1) n j b + fd (fclm ch f o g x 2) n j c + fd (fclm ch f o g x 3) n j e := by
  intro n
  induction n with
  | zero => intro j a b c e _; rfl
  | succ n ih =>
    intro j a b c e h
    simp only [fd]
    rw [← ih (j + 1) _ _ _ _ (fun i hi => h i (by omega))]
    congr 1
    unfold fnet fclm
    by_cases h1 : ch (f j).toNatClampNeg = x
    · have h2 := h j (by omega)
      have h3 : o j = 0 ∨ o j = 1 ∨ o j = 2 ∨ o j = 3 := by
        have h4 := az_int.mp h2
        have e0 : (0 : Int32).toInt = 0 := rfl
        have e1 : (1 : Int32).toInt = 1 := rfl
        have e2 : (2 : Int32).toInt = 2 := rfl
        have e3 : (3 : Int32).toInt = 3 := rfl
        simp only [← Int32.toInt_inj]
        omega
      rcases h3 with h3 | h3 | h3 | h3 <;> simp only [h1, h3, az_q0_1, az_q0_2, az_q0_3, az_q0_4, az_q0_5, az_q0_6, az_q0_7, az_q0_8, az_q1_0, az_q1_2, az_q1_3, az_q1_4, az_q1_5, az_q1_6, az_q1_7, az_q1_8, az_q2_0, az_q2_1, az_q2_3, az_q2_4, az_q2_5, az_q2_6, az_q2_7, az_q2_8, az_q3_0, az_q3_1, az_q3_2, az_q3_4, az_q3_5, az_q3_6, az_q3_7, az_q3_8, az_q4_0, az_q4_1, az_q4_2, az_q4_3, az_q4_5, az_q4_6, az_q4_7, az_q4_8, az_q5_0, az_q5_1, az_q5_2, az_q5_3, az_q5_4, az_q5_6, az_q5_7, az_q5_8, az_q6_0, az_q6_1, az_q6_2, az_q6_3, az_q6_4, az_q6_5, az_q6_7, az_q6_8, az_q7_0, az_q7_1, az_q7_2, az_q7_3, az_q7_4, az_q7_5, az_q7_6, az_q7_8, az_q8_0, az_q8_1, az_q8_2, az_q8_3, az_q8_4, az_q8_5, az_q8_6, az_q8_7, az_z10, az_z60, az_z100, az_z1000, az_z1001, az_z10000, if_true, if_false] <;> ac_rfl
    · simp only [h1, if_false]

/-! of a chain -/
section
variable {xs : az_X} {d : Nat} {nl c z : Nat} {I : Nat → Nat → Int32} {J : Nat → Nat → Int64} {K : az_O → Prop}
set_option maxRecDepth 4000 in
theorem c85 {x : Int32} (hn : nl ≤ 60) (h7 : I 28 7 = nI nl) (hv : ∀ j, j < nl → az_in (I 29 j) 12 = true) : az_C xs (d + 3) 85 [.ref 0, .int x] (az_S, I, J, c, z) K ↔ K (0, some (.int (0 + fd (fclm (I 19) (I 29) (I 30) (I 31) x 0) nl 0 0 + fd (fclm (I 19) (I 29) (I 30) (I 31) x 1) nl 0 0 + fd (fclm (I 19) (I 29) (I 30) (I 31) x 2) nl 0 0 + fd (fclm (I 19) (I 29) (I 30) (I 31) x 3) nl 0 0)), (az_S, I, J, c, z)) := by
  simp (maxDischargeDepth := 7) only [C85, th85, s85_0, s85_1, s85_2, s85_3, s85_4, s85_5, s85_6, s85_9, s85_10, s85_11, s85_12, s85_13, s85_16, s85_17, s85_18, s85_21, s85_24, s85_25, cc84, c84 hn h7 hv, az_ex, az_bk0, az_bk1, az_bkx, az_cat0, az_cati, az_catr, az_catl, az_vi, az_vr, az_bo0, az_bo1, az_boi, true_and, and_true, if_true, if_false, ne_eq, not_true_eq_false, not_false_eq_true, List.set_cons_zero, List.set_cons_succ, Nat.reduceAdd, Nat.reduceLeDiff, Nat.reduceEqDiff, ↓reduceIte, reduceCtorEq, Nat.reduceSub, Nat.reduceMul, Int32.reduceLT, Int32.reduceLE, Int32.reduceAdd, Int32.reduceMul, Int32.reduceSub, az_ne10, az_ne20, az_ne30, Nat.zero_le]
end

/-! anew -/
theorem la9 {a b e f g h k l n : Int32} : a - b - e - f - g - h - k - l - n = a - n - b - e - f - g - h - k - l := by
  simp only [Int32.sub_eq_add_neg]
  ac_rfl
theorem az_c1 : Int32.toNatClampNeg 1 = 1 := by decide
theorem az_c2 : Int32.toNatClampNeg 2 = 2 := by decide
theorem A15 {i : Int32} : az_isA az_S 1 15 i = az_in i 4 := AR14 (j := 0) (by decide)
theorem A16 {i : Int32} : az_isA az_S 1 16 i = az_in i 4 := AR14 (j := 1) (by decide)
theorem A17 {i : Int32} : az_isA az_S 1 17 i = az_in i 4 := AR14 (j := 2) (by decide)
theorem az_in03 : az_in 0 3 = true := by decide
theorem az_in13 : az_in 1 3 = true := by decide
theorem az_in23 : az_in 2 3 = true := by decide

/-! booked -/
def fbk (ch f o l b e : Nat → Int32) (now rt x : Int32) (j : Nat) (s : Int32) : Int32 := if ch (f j).toNatClampNeg = x then (if o j = 0 then (if e j = -1 then s else s + l j * (now - b j) * rt / (100 * (e j - b j))) else s) else s
theorem bz_sub {a b : Nat} (h : b ≤ a) : nI a - nI b = nI (a - b) := by
  have e := bz_add (a - b) b
  rw [Nat.sub_add_cancel h] at e
  rw [← e]
  exact Int32.add_sub_cancel _ _
def az_be (I : Nat → Nat → Int32) (nl : Nat) : Prop := ∀ j, j < nl → ∃ b e : Nat, I 32 j = nI b ∧ (I 33 j = -1 ∨ (I 33 j = nI e ∧ b < e ∧ e ≤ 300))
section
variable {xs : az_X} {d : Nat} {mo nc nl np c z : Nat} {I : Nat → Nat → Int32} {J : Nat → Nat → Int64} {K : az_O → Prop}
theorem c68l {x : Int32} (hx : az_in x 4 = true) (hn : nl ≤ 60) (h7 : I 28 7 = nI nl) (hv : ∀ j, j < nl → az_in (I 29 j) 12 = true) (hb : az_be I nl) : az_W xs (d + 3) 68 9 [some (.ref 0), some (.int x), some (.int 0), some (.int 0)] [] (az_S, I, J, c, z) K ↔ K (0, some (.int (fd (fbk (I 19) (I 29) (I 30) (I 31) (I 32) (I 33) (I 0 6) (I 7 x.toNatClampNeg) x) nl 0 0)), (az_S, I, J, c, z)) := by
  have step : ∀ j s, j < nl → (az_W xs (d + 3) 68 9 [some (.ref 0), some (.int x), some (.int s), some (.int (nI j))] [] (az_S, I, J, c, z) K ↔ az_W xs (d + 3) 68 9 [some (.ref 0), some (.int x), some (.int (fbk (I 19) (I 29) (I 30) (I 31) (I 32) (I 33) (I 0 6) (I 7 x.toNatClampNeg) x j s)), some (.int (nI (j + 1)))] [] (az_S, I, J, c, z) K) := by
    intro j s hj
    have f1 : az_in (nI j) 60 = true := by rw [az_in_nI (by omega)]; simp; omega
    have f2 : (nI nl ≤ nI j) = False := by rw [bz_le (by omega) (by omega)]; simp; omega
    have f4 := hv j hj
    obtain ⟨b, e, hB, hE⟩ := hb j hj
    refine Iff.trans s68_9 ?_
    unfold fbk
    by_cases hh : I 19 (I 29 j).toNatClampNeg = x
    · by_cases hg : I 30 j = 0
      · rcases hE with hE | ⟨hE, hbe, he3⟩
        · simp (maxDischargeDepth := 7) only [C68, th68, s68_0, s68_1, s68_2, s68_5, s68_6, s68_7, s68_8, s68_10, s68_11, s68_14, s68_17, s68_20, s68_21, s68_22, s68_23, s68_26, s68_29, s68_30, s68_31, s68_34, s68_35, s68_36, s68_39, s68_40, s68_43, s68_46, s68_47, s68_48, s68_51, s68_52, s68_53, s68_56, s68_59, s68_60, cc69, g0_3, g28_7, cc76, g0_6, g0_1, g5_1, A7, cc32, C76, th76, s76_0, s76_1, s76_4, s76_7, s76_8, s76_11, s76_14, s76_15, s76_16, s76_17, s76_18, s76_21, s76_22, s76_25, s76_26, g0_2, g18_0, A19, g0_3, g28_0, A29, C32, th32, s32_0, s32_1, s32_4, s32_5, s32_6, s32_9, s32_10, s32_13, s32_14, s32_15, s32_16, s32_19, s32_20, s32_21, s32_23, s32_24, s32_27, s32_28, s32_29, s32_30, s32_33, s32_34, s32_35, s32_36, s32_37, s32_39, s32_41, s32_44, s32_45, s32_48, s32_49, s32_52, s32_53, s32_54, s32_55, s32_56, s32_59, s32_60, s32_61, s32_62, s32_63, s32_64, s32_65, s32_67, s32_68, g28_1, A30, g28_4, A33, g28_3, A32, g28_2, A31, az_ex, az_bk0, az_bk1, az_bkx, az_cat0, az_cati, az_catr, az_catl, az_vi, az_vr, az_bo0, az_bo1, az_boi, true_and, and_true, if_true, if_false, ne_eq, not_true_eq_false, not_false_eq_true, List.set_cons_zero, List.set_cons_succ, Nat.reduceAdd, Nat.reduceLeDiff, Nat.reduceEqDiff, ↓reduceIte, reduceCtorEq, Nat.reduceSub, Nat.reduceMul, Int32.reduceLT, Int32.reduceLE, Int32.reduceAdd, Int32.reduceMul, Int32.reduceSub, az_ne10, az_ne20, az_ne30, Nat.zero_le, az_q0_1, az_q0_2, az_q0_3, az_q0_4, az_q0_5, az_q0_6, az_q0_7, az_q0_8, az_q1_0, az_q1_2, az_q1_3, az_q1_4, az_q1_5, az_q1_6, az_q1_7, az_q1_8, az_q2_0, az_q2_1, az_q2_3, az_q2_4, az_q2_5, az_q2_6, az_q2_7, az_q2_8, az_q3_0, az_q3_1, az_q3_2, az_q3_4, az_q3_5, az_q3_6, az_q3_7, az_q3_8, az_q4_0, az_q4_1, az_q4_2, az_q4_3, az_q4_5, az_q4_6, az_q4_7, az_q4_8, az_q5_0, az_q5_1, az_q5_2, az_q5_3, az_q5_4, az_q5_6, az_q5_7, az_q5_8, az_q6_0, az_q6_1, az_q6_2, az_q6_3, az_q6_4, az_q6_5, az_q6_7, az_q6_8, az_q7_0, az_q7_1, az_q7_2, az_q7_3, az_q7_4, az_q7_5, az_q7_6, az_q7_8, az_q8_0, az_q8_1, az_q8_2, az_q8_3, az_q8_4, az_q8_5, az_q8_6, az_q8_7, az_z10, az_z60, az_z100, az_z1000, az_z1001, az_z10000, h7, f1, f2, f4, hx, hh, hg, hE, nI_1, nI_clamp (show j < 2 ^ 31 by omega), Int32.add_zero]
        · have k1 : nI e - nI b = nI (e - b) := bz_sub (by omega)
          have k2 : 100 * nI (e - b) = nI (100 * (e - b)) := bz_mul 100 (e - b)
          have k3 : (0 < nI (100 * (e - b))) = True := by rw [show (0 : Int32) = nI 0 from rfl, bz_lt (by omega) (by omega)]; simp; omega
          have k4 : (nI (100 * (e - b)) = 0) = False := by rw [show (0 : Int32) = nI 0 from rfl, bz_eq (by omega) (by omega)]; simp; omega
          simp (maxDischargeDepth := 7) only [C68, th68, s68_0, s68_1, s68_2, s68_5, s68_6, s68_7, s68_8, s68_10, s68_11, s68_14, s68_17, s68_20, s68_21, s68_22, s68_23, s68_26, s68_29, s68_30, s68_31, s68_34, s68_35, s68_36, s68_39, s68_40, s68_43, s68_46, s68_47, s68_48, s68_51, s68_52, s68_53, s68_56, s68_59, s68_60, cc69, g0_3, g28_7, cc76, g0_6, g0_1, g5_1, A7, cc32, C76, th76, s76_0, s76_1, s76_4, s76_7, s76_8, s76_11, s76_14, s76_15, s76_16, s76_17, s76_18, s76_21, s76_22, s76_25, s76_26, g0_2, g18_0, A19, g0_3, g28_0, A29, C32, th32, s32_0, s32_1, s32_4, s32_5, s32_6, s32_9, s32_10, s32_13, s32_14, s32_15, s32_16, s32_19, s32_20, s32_21, s32_23, s32_24, s32_27, s32_28, s32_29, s32_30, s32_33, s32_34, s32_35, s32_36, s32_37, s32_39, s32_41, s32_44, s32_45, s32_48, s32_49, s32_52, s32_53, s32_54, s32_55, s32_56, s32_59, s32_60, s32_61, s32_62, s32_63, s32_64, s32_65, s32_67, s32_68, g28_1, A30, g28_4, A33, g28_3, A32, g28_2, A31, az_ex, az_bk0, az_bk1, az_bkx, az_cat0, az_cati, az_catr, az_catl, az_vi, az_vr, az_bo0, az_bo1, az_boi, true_and, and_true, if_true, if_false, ne_eq, not_true_eq_false, not_false_eq_true, List.set_cons_zero, List.set_cons_succ, Nat.reduceAdd, Nat.reduceLeDiff, Nat.reduceEqDiff, ↓reduceIte, reduceCtorEq, Nat.reduceSub, Nat.reduceMul, Int32.reduceLT, Int32.reduceLE, Int32.reduceAdd, Int32.reduceMul, Int32.reduceSub, az_ne10, az_ne20, az_ne30, Nat.zero_le, az_q0_1, az_q0_2, az_q0_3, az_q0_4, az_q0_5, az_q0_6, az_q0_7, az_q0_8, az_q1_0, az_q1_2, az_q1_3, az_q1_4, az_q1_5, az_q1_6, az_q1_7, az_q1_8, az_q2_0, az_q2_1, az_q2_3, az_q2_4, az_q2_5, az_q2_6, az_q2_7, az_q2_8, az_q3_0, az_q3_1, az_q3_2, az_q3_4, az_q3_5, az_q3_6, az_q3_7, az_q3_8, az_q4_0, az_q4_1, az_q4_2, az_q4_3, az_q4_5, az_q4_6, az_q4_7, az_q4_8, az_q5_0, az_q5_1, az_q5_2, az_q5_3, az_q5_4, az_q5_6, az_q5_7, az_q5_8, az_q6_0, az_q6_1, az_q6_2, az_q6_3, az_q6_4, az_q6_5, az_q6_7, az_q6_8, az_q7_0, az_q7_1, az_q7_2, az_q7_3, az_q7_4, az_q7_5, az_q7_6, az_q7_8, az_q8_0, az_q8_1, az_q8_2, az_q8_3, az_q8_4, az_q8_5, az_q8_6, az_q8_7, az_z10, az_z60, az_z100, az_z1000, az_z1001, az_z10000, h7, f1, f2, f4, hx, hh, hg, hE, hB, k1, k2, k3, k4, bz_n2 he3, nI_1, nI_clamp (show j < 2 ^ 31 by omega), Int32.add_zero]
      · simp (maxDischargeDepth := 7) only [C68, th68, s68_0, s68_1, s68_2, s68_5, s68_6, s68_7, s68_8, s68_10, s68_11, s68_14, s68_17, s68_20, s68_21, s68_22, s68_23, s68_26, s68_29, s68_30, s68_31, s68_34, s68_35, s68_36, s68_39, s68_40, s68_43, s68_46, s68_47, s68_48, s68_51, s68_52, s68_53, s68_56, s68_59, s68_60, cc69, g0_3, g28_7, cc76, g0_6, g0_1, g5_1, A7, cc32, C76, th76, s76_0, s76_1, s76_4, s76_7, s76_8, s76_11, s76_14, s76_15, s76_16, s76_17, s76_18, s76_21, s76_22, s76_25, s76_26, g0_2, g18_0, A19, g0_3, g28_0, A29, C32, th32, s32_0, s32_1, s32_4, s32_5, s32_6, s32_9, s32_10, s32_13, s32_14, s32_15, s32_16, s32_19, s32_20, s32_21, s32_23, s32_24, s32_27, s32_28, s32_29, s32_30, s32_33, s32_34, s32_35, s32_36, s32_37, s32_39, s32_41, s32_44, s32_45, s32_48, s32_49, s32_52, s32_53, s32_54, s32_55, s32_56, s32_59, s32_60, s32_61, s32_62, s32_63, s32_64, s32_65, s32_67, s32_68, g28_1, A30, g28_4, A33, g28_3, A32, g28_2, A31, az_ex, az_bk0, az_bk1, az_bkx, az_cat0, az_cati, az_catr, az_catl, az_vi, az_vr, az_bo0, az_bo1, az_boi, true_and, and_true, if_true, if_false, ne_eq, not_true_eq_false, not_false_eq_true, List.set_cons_zero, List.set_cons_succ, Nat.reduceAdd, Nat.reduceLeDiff, Nat.reduceEqDiff, ↓reduceIte, reduceCtorEq, Nat.reduceSub, Nat.reduceMul, Int32.reduceLT, Int32.reduceLE, Int32.reduceAdd, Int32.reduceMul, Int32.reduceSub, az_ne10, az_ne20, az_ne30, Nat.zero_le, az_q0_1, az_q0_2, az_q0_3, az_q0_4, az_q0_5, az_q0_6, az_q0_7, az_q0_8, az_q1_0, az_q1_2, az_q1_3, az_q1_4, az_q1_5, az_q1_6, az_q1_7, az_q1_8, az_q2_0, az_q2_1, az_q2_3, az_q2_4, az_q2_5, az_q2_6, az_q2_7, az_q2_8, az_q3_0, az_q3_1, az_q3_2, az_q3_4, az_q3_5, az_q3_6, az_q3_7, az_q3_8, az_q4_0, az_q4_1, az_q4_2, az_q4_3, az_q4_5, az_q4_6, az_q4_7, az_q4_8, az_q5_0, az_q5_1, az_q5_2, az_q5_3, az_q5_4, az_q5_6, az_q5_7, az_q5_8, az_q6_0, az_q6_1, az_q6_2, az_q6_3, az_q6_4, az_q6_5, az_q6_7, az_q6_8, az_q7_0, az_q7_1, az_q7_2, az_q7_3, az_q7_4, az_q7_5, az_q7_6, az_q7_8, az_q8_0, az_q8_1, az_q8_2, az_q8_3, az_q8_4, az_q8_5, az_q8_6, az_q8_7, az_z10, az_z60, az_z100, az_z1000, az_z1001, az_z10000, h7, f1, f2, f4, hx, hh, hg, nI_1, nI_clamp (show j < 2 ^ 31 by omega), Int32.add_zero]
    · simp (maxDischargeDepth := 7) only [C68, th68, s68_0, s68_1, s68_2, s68_5, s68_6, s68_7, s68_8, s68_10, s68_11, s68_14, s68_17, s68_20, s68_21, s68_22, s68_23, s68_26, s68_29, s68_30, s68_31, s68_34, s68_35, s68_36, s68_39, s68_40, s68_43, s68_46, s68_47, s68_48, s68_51, s68_52, s68_53, s68_56, s68_59, s68_60, cc69, g0_3, g28_7, cc76, g0_6, g0_1, g5_1, A7, cc32, C76, th76, s76_0, s76_1, s76_4, s76_7, s76_8, s76_11, s76_14, s76_15, s76_16, s76_17, s76_18, s76_21, s76_22, s76_25, s76_26, g0_2, g18_0, A19, g0_3, g28_0, A29, C32, th32, s32_0, s32_1, s32_4, s32_5, s32_6, s32_9, s32_10, s32_13, s32_14, s32_15, s32_16, s32_19, s32_20, s32_21, s32_23, s32_24, s32_27, s32_28, s32_29, s32_30, s32_33, s32_34, s32_35, s32_36, s32_37, s32_39, s32_41, s32_44, s32_45, s32_48, s32_49, s32_52, s32_53, s32_54, s32_55, s32_56, s32_59, s32_60, s32_61, s32_62, s32_63, s32_64, s32_65, s32_67, s32_68, g28_1, A30, g28_4, A33, g28_3, A32, g28_2, A31, az_ex, az_bk0, az_bk1, az_bkx, az_cat0, az_cati, az_catr, az_catl, az_vi, az_vr, az_bo0, az_bo1, az_boi, true_and, and_true, if_true, if_false, ne_eq, not_true_eq_false, not_false_eq_true, List.set_cons_zero, List.set_cons_succ, Nat.reduceAdd, Nat.reduceLeDiff, Nat.reduceEqDiff, ↓reduceIte, reduceCtorEq, Nat.reduceSub, Nat.reduceMul, Int32.reduceLT, Int32.reduceLE, Int32.reduceAdd, Int32.reduceMul, Int32.reduceSub, az_ne10, az_ne20, az_ne30, Nat.zero_le, az_q0_1, az_q0_2, az_q0_3, az_q0_4, az_q0_5, az_q0_6, az_q0_7, az_q0_8, az_q1_0, az_q1_2, az_q1_3, az_q1_4, az_q1_5, az_q1_6, az_q1_7, az_q1_8, az_q2_0, az_q2_1, az_q2_3, az_q2_4, az_q2_5, az_q2_6, az_q2_7, az_q2_8, az_q3_0, az_q3_1, az_q3_2, az_q3_4, az_q3_5, az_q3_6, az_q3_7, az_q3_8, az_q4_0, az_q4_1, az_q4_2, az_q4_3, az_q4_5, az_q4_6, az_q4_7, az_q4_8, az_q5_0, az_q5_1, az_q5_2, az_q5_3, az_q5_4, az_q5_6, az_q5_7, az_q5_8, az_q6_0, az_q6_1, az_q6_2, az_q6_3, az_q6_4, az_q6_5, az_q6_7, az_q6_8, az_q7_0, az_q7_1, az_q7_2, az_q7_3, az_q7_4, az_q7_5, az_q7_6, az_q7_8, az_q8_0, az_q8_1, az_q8_2, az_q8_3, az_q8_4, az_q8_5, az_q8_6, az_q8_7, az_z10, az_z60, az_z100, az_z1000, az_z1001, az_z10000, h7, f1, f2, f4, hx, hh, nI_1, nI_clamp (show j < 2 ^ 31 by omega), Int32.add_zero]
  refine (az_loop (W := fun j s => az_W xs (d + 3) 68 9 [some (.ref 0), some (.int x), some (.int s), some (.int (nI j))] [] (az_S, I, J, c, z) K) step nl 0 0 (Nat.zero_add _)).trans ?_
  have f3 : (nI nl ≤ nI nl) = True := by rw [bz_le (by omega) (by omega)]; simp
  show az_W xs (d + 3) 68 9 _ _ _ _ ↔ _
  refine Iff.trans s68_9 ?_
  simp (maxDischargeDepth := 7) only [C68, th68, s68_0, s68_1, s68_2, s68_5, s68_6, s68_7, s68_8, s68_10, s68_11, s68_14, s68_17, s68_20, s68_21, s68_22, s68_23, s68_26, s68_29, s68_30, s68_31, s68_34, s68_35, s68_36, s68_39, s68_40, s68_43, s68_46, s68_47, s68_48, s68_51, s68_52, s68_53, s68_56, s68_59, s68_60, cc69, g0_3, g28_7, cc76, g0_6, g0_1, g5_1, A7, cc32, az_ex, az_bk0, az_bk1, az_bkx, az_cat0, az_cati, az_catr, az_catl, az_vi, az_vr, az_bo0, az_bo1, az_boi, true_and, and_true, if_true, if_false, ne_eq, not_true_eq_false, not_false_eq_true, List.set_cons_zero, List.set_cons_succ, Nat.reduceAdd, Nat.reduceLeDiff, Nat.reduceEqDiff, ↓reduceIte, reduceCtorEq, Nat.reduceSub, Nat.reduceMul, Int32.reduceLT, Int32.reduceLE, Int32.reduceAdd, Int32.reduceMul, Int32.reduceSub, az_ne10, az_ne20, az_ne30, Nat.zero_le, h7, f3]
end

/-! convert -/
theorem az_z12 : ((12 : Int32) = 0) = False := by decide
theorem bz_d5 : ∀ v, v ≤ 500 → 0 ≤ (nI v / 5).toInt ∧ (nI v / 5).toInt ≤ 1000 := by
  have h : ∀ v, v < 501 → 0 ≤ (nI v / 5).toInt ∧ (nI v / 5).toInt ≤ 1000 := by decide +kernel
  exact fun v hv => h v (by omega)
