/-! the reference finds the best price: its small parts -/
/-- of campaigns the reference's cells, by a state of the class's -/
def cpM (I A : Nat → Nat → Int32) (ng : Nat) : Prop := (I 172 = A 37 ∧ I 173 = A 38 ∧ I 174 = A 39 ∧ I 175 = A 175) ∧ I 152 23 = nI ng
def badB (A : Nat → Nat → Int32) (s k : Nat) : Prop := ¬ A 175 k = 0 ∧ s.testBit (k / 6) = true ∧ s.testBit (k % 6) = true
theorem badB_ok {A : Nat → Nat → Int32} {n s : Nat} (hn : n ≤ 6) (hb : az_ebar A) (hs : s < 2 ^ n) : okS (bmI A) n s ↔ ∀ k, k < 36 → ¬ badB A s k := by
  constructor
  · rintro h k hk ⟨h1, h2, h3⟩
    have hlt : ∀ i, s.testBit i = true → i < n := fun i hi => by
      apply Nat.lt_of_not_le
      intro hle
      rw [Nat.testBit_lt_two_pow (Nat.lt_of_lt_of_le hs (Nat.pow_le_pow_right (by decide) hle))] at hi
      cases hi
    have h4 := h (k / 6) (hlt _ h2) (k % 6) (hlt _ h3) h2 h3
    have h5 := ((ebar_bm hb (show k / 6 < 6 by omega)).2.2.2 (k % 6) (by omega)).1
    rw [h4, show 6 * (k / 6) + k % 6 = k by omega] at h5
    exact h1 h5
  · intro h a ha b hb' h1 h2
    rw [Bool.eq_false_iff]
    intro h3
    have h5 := ((ebar_bm hb (show a < 6 by omega)).2.2.2 b (by omega)).1
    rw [h3] at h5
    refine h (6 * a + b) (by omega) ⟨?_, ?_, ?_⟩
    · rw [h5]; decide
    · rw [show (6 * a + b) / 6 = a by omega]; exact h1
    · rw [show (6 * a + b) % 6 = b by omega]; exact h2
theorem bz_rem {a b : Nat} (ha : a < 2 ^ 31) (hb : b < 2 ^ 31) : nI a - nI a / nI b * nI b = nI (a % b) := by
  rw [bz_div ha hb, bz_mul, bz_sub (Nat.div_mul_le_self a b)]
  congr 1
  have := Nat.div_add_mod a b
  rw [Nat.mul_comm] at this
  omega
def fbr (A : Nat → Nat → Int32) (s j : Nat) (t : Int32) : Int32 := if t = 0 then (if A 175 j = 0 then 0 else if s.testBit (j / 6) = true then (if s.testBit (j % 6) = true then 1 else 0) else 0) else 1
theorem bz_pw {n : Nat} (h : n ≤ 6) : (1 : Int32) <<< (nI n &&& 31) = nI (2 ^ n) := by
  have h1 : ∀ n, n < 7 → (1 : Int32) <<< (nI n &&& 31) = nI (2 ^ n) := by decide +kernel
  exact h1 n (by omega)
section
variable {xs : az_X} {d : Nat} {ng c z : Nat} {I A : Nat → Nat → Int32} {J : Nat → Nat → Int64} {K : az_O → Prop}
theorem r105 {cp k : Nat} (hM : cpM I A ng) (hv : az_vcp ng A) (hn : ng ≤ 6) (hc : cp < ng) (hk : k < 1024) : az_C xs (d + 1) 105 [.ref 152, .int (nI cp), .int (nI k)] (az_S, I, J, c, z) K ↔ K (0, some (.int (nI (apI A cp k))), (az_S, I, J, c, z)) := by
  have f1 : az_in (nI cp) 6 = true := by rw [az_in_nI (by omega)]; simp; omega
  obtain ⟨⟨m1, m2, m3, m4⟩, m5⟩ := hM
  obtain ⟨v, u, h1, h2, h3, h4, h5⟩ := hv cp hc
  have h6 : (A 38 cp).toNatClampNeg = v := by rw [h3, nI_clamp (by omega)]
  have z100 : ((100 : Int32) = 0) = False := by decide
  unfold apI
  rw [h6]
  rcases h1 with ⟨h1, hv9⟩ | ⟨h1, hv9⟩
  · have hkv : k * v ≤ 1023 * 90 := Nat.mul_le_mul (by omega) hv9
    have e1 : nI k * nI v = nI (k * v) := bz_mul k v
    have e2 : nI (k * v) / 100 = nI (k * v / 100) := bz_div (b := 100) (by omega) (by omega)
    have hle : k * v / 100 ≤ k := by
      have h9 : k * v ≤ k * 90 := Nat.mul_le_mul_left k hv9
      omega
    have e3 : nI k - nI (k * v / 100) = nI (k - k * v / 100) := bz_sub hle
    have e4 : (nI (k * v / 100) ≤ nI k) = True := by rw [bz_le (by omega) (by omega)]; simp; exact hle
    simp (maxDischargeDepth := 7) only [C105, th105, s105_0, s105_1, s105_4, s105_5, s105_6, s105_9, s105_10, s105_11, s105_14, s105_15, s105_16, s105_17, s105_19, s105_20, s105_23, s105_24, s105_27, s105_28, s105_29, s105_30, s105_31, s105_32, s105_35, s105_36, s105_39, s105_40, s105_41, s105_42, g152_24, A172, g152_25, A173, az_ex, az_bk0, az_bk1, az_bkx, az_cat0, az_cati, az_catr, az_catl, az_vi, az_vr, az_bo0, az_bo1, az_boi, true_and, and_true, if_true, if_false, ne_eq, not_true_eq_false, not_false_eq_true, List.set_cons_zero, List.set_cons_succ, Nat.reduceAdd, Nat.reduceLeDiff, Nat.reduceEqDiff, ↓reduceIte, reduceCtorEq, Nat.reduceSub, Nat.reduceMul, Int32.reduceLT, Int32.reduceLE, Int32.reduceAdd, Int32.reduceMul, Int32.reduceSub, az_ne10, az_ne20, az_ne30, Nat.zero_le, az_q0_1, az_q0_2, az_q0_3, az_q0_4, az_q0_5, az_q0_6, az_q0_7, az_q0_8, az_q1_0, az_q1_2, az_q1_3, az_q1_4, az_q1_5, az_q1_6, az_q1_7, az_q1_8, az_q2_0, az_q2_1, az_q2_3, az_q2_4, az_q2_5, az_q2_6, az_q2_7, az_q2_8, az_q3_0, az_q3_1, az_q3_2, az_q3_4, az_q3_5, az_q3_6, az_q3_7, az_q3_8, az_q4_0, az_q4_1, az_q4_2, az_q4_3, az_q4_5, az_q4_6, az_q4_7, az_q4_8, az_q5_0, az_q5_1, az_q5_2, az_q5_3, az_q5_4, az_q5_6, az_q5_7, az_q5_8, az_q6_0, az_q6_1, az_q6_2, az_q6_3, az_q6_4, az_q6_5, az_q6_7, az_q6_8, az_q7_0, az_q7_1, az_q7_2, az_q7_3, az_q7_4, az_q7_5, az_q7_6, az_q7_8, az_q8_0, az_q8_1, az_q8_2, az_q8_3, az_q8_4, az_q8_5, az_q8_6, az_q8_7, az_z10, az_z60, az_z100, az_z1000, az_z1001, az_z10000, m1, m2, f1, h1, h3, z100, e1, e2, e3, e4, nI_clamp (show cp < 2 ^ 31 by omega)]
  · by_cases hkv : v ≤ k
    · have e3 : nI k - nI v = nI (k - v) := bz_sub hkv
      have e4 : (nI v ≤ nI k) = True := by rw [bz_le (by omega) (by omega)]; simp; omega
      simp (maxDischargeDepth := 7) only [C105, th105, s105_0, s105_1, s105_4, s105_5, s105_6, s105_9, s105_10, s105_11, s105_14, s105_15, s105_16, s105_17, s105_19, s105_20, s105_23, s105_24, s105_27, s105_28, s105_29, s105_30, s105_31, s105_32, s105_35, s105_36, s105_39, s105_40, s105_41, s105_42, g152_24, A172, g152_25, A173, az_ex, az_bk0, az_bk1, az_bkx, az_cat0, az_cati, az_catr, az_catl, az_vi, az_vr, az_bo0, az_bo1, az_boi, true_and, and_true, if_true, if_false, ne_eq, not_true_eq_false, not_false_eq_true, List.set_cons_zero, List.set_cons_succ, Nat.reduceAdd, Nat.reduceLeDiff, Nat.reduceEqDiff, ↓reduceIte, reduceCtorEq, Nat.reduceSub, Nat.reduceMul, Int32.reduceLT, Int32.reduceLE, Int32.reduceAdd, Int32.reduceMul, Int32.reduceSub, az_ne10, az_ne20, az_ne30, Nat.zero_le, az_q0_1, az_q0_2, az_q0_3, az_q0_4, az_q0_5, az_q0_6, az_q0_7, az_q0_8, az_q1_0, az_q1_2, az_q1_3, az_q1_4, az_q1_5, az_q1_6, az_q1_7, az_q1_8, az_q2_0, az_q2_1, az_q2_3, az_q2_4, az_q2_5, az_q2_6, az_q2_7, az_q2_8, az_q3_0, az_q3_1, az_q3_2, az_q3_4, az_q3_5, az_q3_6, az_q3_7, az_q3_8, az_q4_0, az_q4_1, az_q4_2, az_q4_3, az_q4_5, az_q4_6, az_q4_7, az_q4_8, az_q5_0, az_q5_1, az_q5_2, az_q5_3, az_q5_4, az_q5_6, az_q5_7, az_q5_8, az_q6_0, az_q6_1, az_q6_2, az_q6_3, az_q6_4, az_q6_5, az_q6_7, az_q6_8, az_q7_0, az_q7_1, az_q7_2, az_q7_3, az_q7_4, az_q7_5, az_q7_6, az_q7_8, az_q8_0, az_q8_1, az_q8_2, az_q8_3, az_q8_4, az_q8_5, az_q8_6, az_q8_7, az_z10, az_z60, az_z100, az_z1000, az_z1001, az_z10000, m1, m2, f1, h1, h3, e3, e4, nI_clamp (show cp < 2 ^ 31 by omega)]
    · have e3 : (nI v ≤ nI k) = False := by rw [bz_le (by omega) (by omega)]; simp; omega
      have e4 : nI (k - v) = 0 := by rw [show k - v = 0 by omega]; rfl
      simp (maxDischargeDepth := 7) only [C105, th105, s105_0, s105_1, s105_4, s105_5, s105_6, s105_9, s105_10, s105_11, s105_14, s105_15, s105_16, s105_17, s105_19, s105_20, s105_23, s105_24, s105_27, s105_28, s105_29, s105_30, s105_31, s105_32, s105_35, s105_36, s105_39, s105_40, s105_41, s105_42, g152_24, A172, g152_25, A173, az_ex, az_bk0, az_bk1, az_bkx, az_cat0, az_cati, az_catr, az_catl, az_vi, az_vr, az_bo0, az_bo1, az_boi, true_and, and_true, if_true, if_false, ne_eq, not_true_eq_false, not_false_eq_true, List.set_cons_zero, List.set_cons_succ, Nat.reduceAdd, Nat.reduceLeDiff, Nat.reduceEqDiff, ↓reduceIte, reduceCtorEq, Nat.reduceSub, Nat.reduceMul, Int32.reduceLT, Int32.reduceLE, Int32.reduceAdd, Int32.reduceMul, Int32.reduceSub, az_ne10, az_ne20, az_ne30, Nat.zero_le, az_q0_1, az_q0_2, az_q0_3, az_q0_4, az_q0_5, az_q0_6, az_q0_7, az_q0_8, az_q1_0, az_q1_2, az_q1_3, az_q1_4, az_q1_5, az_q1_6, az_q1_7, az_q1_8, az_q2_0, az_q2_1, az_q2_3, az_q2_4, az_q2_5, az_q2_6, az_q2_7, az_q2_8, az_q3_0, az_q3_1, az_q3_2, az_q3_4, az_q3_5, az_q3_6, az_q3_7, az_q3_8, az_q4_0, az_q4_1, az_q4_2, az_q4_3, az_q4_5, az_q4_6, az_q4_7, az_q4_8, az_q5_0, az_q5_1, az_q5_2, az_q5_3, az_q5_4, az_q5_6, az_q5_7, az_q5_8, az_q6_0, az_q6_1, az_q6_2, az_q6_3, az_q6_4, az_q6_5, az_q6_7, az_q6_8, az_q7_0, az_q7_1, az_q7_2, az_q7_3, az_q7_4, az_q7_5, az_q7_6, az_q7_8, az_q8_0, az_q8_1, az_q8_2, az_q8_3, az_q8_4, az_q8_5, az_q8_6, az_q8_7, az_z10, az_z60, az_z100, az_z1000, az_z1001, az_z10000, m1, m2, f1, h1, h3, e3, e4, nI_clamp (show cp < 2 ^ 31 by omega)]
theorem r106 {s : Nat} (hM : cpM I A ng) (hb : az_ebar A) (hn : ng ≤ 6) (hs : s < 2 ^ ng) (hK1 : okS (bmI A) ng s → K (0, some (.int 0), (az_S, I, J, c, z))) (hK2 : ¬ okS (bmI A) ng s → K (0, some (.int 1), (az_S, I, J, c, z))) : az_C xs (d + 1) 106 [.ref 152, .int (nI s)] (az_S, I, J, c, z) K := by
  have hs6 : s < 64 := Nat.lt_of_lt_of_le hs (Nat.pow_le_pow_right (by decide) hn : 2 ^ ng ≤ 2 ^ 6)
  obtain ⟨⟨m1, m2, m3, m4⟩, m5⟩ := hM
  have n1 : ((36 : Int32)) = nI 36 := rfl
  simp (maxDischargeDepth := 7) only [C106, th106, s106_0, s106_1, s106_2, s106_3, s106_5, s106_7, s106_10, s106_11, s106_14, s106_15, s106_18, s106_19, s106_20, s106_23, s106_24, s106_25, s106_27, s106_28, s106_29, s106_30, s106_31, s106_32, s106_35, s106_36, s106_37, s106_39, s106_40, s106_41, s106_42, s106_43, s106_44, s106_47, s106_48, s106_51, s106_52, s106_53, s106_56, s106_59, s106_60, g152_27, A175, az_ex, az_bk0, az_bk1, az_bkx, az_cat0, az_cati, az_catr, az_catl, az_vi, az_vr, az_bo0, az_bo1, az_boi, true_and, and_true, if_true, if_false, ne_eq, not_true_eq_false, not_false_eq_true, List.set_cons_zero, List.set_cons_succ, Nat.reduceAdd, Nat.reduceLeDiff, Nat.reduceEqDiff, ↓reduceIte, reduceCtorEq, Nat.reduceSub, Nat.reduceMul, Int32.reduceLT, Int32.reduceLE, Int32.reduceAdd, Int32.reduceMul, Int32.reduceSub, az_ne10, az_ne20, az_ne30, Nat.zero_le]
  have hfin := fd_inv (n := 36) (h := fbr A s) (Inv := fun j t => (t = 0 ∧ ∀ k, k < j → ¬ badB A s k) ∨ (t = 1 ∧ ∃ k, k < 36 ∧ badB A s k)) ?_ 36 0 0 (by omega) (Or.inl ⟨rfl, fun k hk => absurd hk (by omega)⟩)
  · have key := az_loopB (n := 36) (h := fbr A s) (Inv := fun _ t => t = 0 ∨ t = 1) (W := fun j t => az_W xs d 106 4 [some (.ref 152), some (.int (nI s)), some (.int t), some (.int (nI j))] [] (az_S, I, J, c, z) K) (fun j t hj hi => by unfold fbr; (repeat' split) <;> first | exact Or.inl rfl | exact Or.inr rfl) ?_ 36 0 0 (by omega) (Or.inl rfl) ?_
    · exact key
    · intro j t hj hi hw
      have f1 : az_in (nI j) 36 = true := by rw [az_in_nI (by omega)]; simp; omega
      have f2 : ((36 : Int32) ≤ nI j) = False := by rw [n1, bz_le (by omega) (by omega)]; simp; omega
      have f3 := bq1 hs6 (show j / 6 < 6 by omega)
      have f4 := bq1 hs6 (show j % 6 < 6 by omega)
      have f5 : nI j / 6 = nI (j / 6) := bz_div (b := 6) (by omega) (by omega)
      have f6 : nI j - nI (j / 6) * 6 = nI (j % 6) := by have := bz_rem (a := j) (b := 6) (by omega) (by omega); rw [show nI 6 = 6 from rfl, f5] at this; exact this
      have z6 : ((6 : Int32) = 0) = False := by decide
      refine s106_4.mpr ?_
      unfold fbr at hw
      rcases hi with rfl | rfl
      · simp only [if_true] at hw
        by_cases h1 : A 175 j = 0
        · simp only [h1, if_true] at hw
          simp (maxDischargeDepth := 7) only [s106_5, s106_7, s106_10, s106_11, s106_14, s106_15, s106_18, s106_19, s106_20, s106_23, s106_24, s106_25, s106_27, s106_28, s106_29, s106_30, s106_31, s106_32, s106_35, s106_36, s106_37, s106_39, s106_40, s106_41, s106_42, s106_43, s106_44, s106_47, s106_48, s106_51, s106_52, s106_53, s106_56, s106_59, s106_60, g152_27, A175, az_ex, az_bk0, az_bk1, az_bkx, az_cat0, az_cati, az_catr, az_catl, az_vi, az_vr, az_bo0, az_bo1, az_boi, true_and, and_true, if_true, if_false, ne_eq, not_true_eq_false, not_false_eq_true, List.set_cons_zero, List.set_cons_succ, Nat.reduceAdd, Nat.reduceLeDiff, Nat.reduceEqDiff, ↓reduceIte, reduceCtorEq, Nat.reduceSub, Nat.reduceMul, Int32.reduceLT, Int32.reduceLE, Int32.reduceAdd, Int32.reduceMul, Int32.reduceSub, az_ne10, az_ne20, az_ne30, Nat.zero_le, az_q0_1, az_q0_2, az_q0_3, az_q0_4, az_q0_5, az_q0_6, az_q0_7, az_q0_8, az_q1_0, az_q1_2, az_q1_3, az_q1_4, az_q1_5, az_q1_6, az_q1_7, az_q1_8, az_q2_0, az_q2_1, az_q2_3, az_q2_4, az_q2_5, az_q2_6, az_q2_7, az_q2_8, az_q3_0, az_q3_1, az_q3_2, az_q3_4, az_q3_5, az_q3_6, az_q3_7, az_q3_8, az_q4_0, az_q4_1, az_q4_2, az_q4_3, az_q4_5, az_q4_6, az_q4_7, az_q4_8, az_q5_0, az_q5_1, az_q5_2, az_q5_3, az_q5_4, az_q5_6, az_q5_7, az_q5_8, az_q6_0, az_q6_1, az_q6_2, az_q6_3, az_q6_4, az_q6_5, az_q6_7, az_q6_8, az_q7_0, az_q7_1, az_q7_2, az_q7_3, az_q7_4, az_q7_5, az_q7_6, az_q7_8, az_q8_0, az_q8_1, az_q8_2, az_q8_3, az_q8_4, az_q8_5, az_q8_6, az_q8_7, az_z10, az_z60, az_z100, az_z1000, az_z1001, az_z10000, m4, f1, f2, h1, nI_1, nI_clamp (show j < 2 ^ 31 by omega)]
          exact hw
        · simp only [h1, if_false] at hw
          cases h2 : s.testBit (j / 6) with
          | false =>
            simp only [h2, Bool.false_eq_true, if_false] at hw f3
            simp (maxDischargeDepth := 7) only [s106_5, s106_7, s106_10, s106_11, s106_14, s106_15, s106_18, s106_19, s106_20, s106_23, s106_24, s106_25, s106_27, s106_28, s106_29, s106_30, s106_31, s106_32, s106_35, s106_36, s106_37, s106_39, s106_40, s106_41, s106_42, s106_43, s106_44, s106_47, s106_48, s106_51, s106_52, s106_53, s106_56, s106_59, s106_60, g152_27, A175, az_ex, az_bk0, az_bk1, az_bkx, az_cat0, az_cati, az_catr, az_catl, az_vi, az_vr, az_bo0, az_bo1, az_boi, true_and, and_true, if_true, if_false, ne_eq, not_true_eq_false, not_false_eq_true, List.set_cons_zero, List.set_cons_succ, Nat.reduceAdd, Nat.reduceLeDiff, Nat.reduceEqDiff, ↓reduceIte, reduceCtorEq, Nat.reduceSub, Nat.reduceMul, Int32.reduceLT, Int32.reduceLE, Int32.reduceAdd, Int32.reduceMul, Int32.reduceSub, az_ne10, az_ne20, az_ne30, Nat.zero_le, az_q0_1, az_q0_2, az_q0_3, az_q0_4, az_q0_5, az_q0_6, az_q0_7, az_q0_8, az_q1_0, az_q1_2, az_q1_3, az_q1_4, az_q1_5, az_q1_6, az_q1_7, az_q1_8, az_q2_0, az_q2_1, az_q2_3, az_q2_4, az_q2_5, az_q2_6, az_q2_7, az_q2_8, az_q3_0, az_q3_1, az_q3_2, az_q3_4, az_q3_5, az_q3_6, az_q3_7, az_q3_8, az_q4_0, az_q4_1, az_q4_2, az_q4_3, az_q4_5, az_q4_6, az_q4_7, az_q4_8, az_q5_0, az_q5_1, az_q5_2, az_q5_3, az_q5_4, az_q5_6, az_q5_7, az_q5_8, az_q6_0, az_q6_1, az_q6_2, az_q6_3, az_q6_4, az_q6_5, az_q6_7, az_q6_8, az_q7_0, az_q7_1, az_q7_2, az_q7_3, az_q7_4, az_q7_5, az_q7_6, az_q7_8, az_q8_0, az_q8_1, az_q8_2, az_q8_3, az_q8_4, az_q8_5, az_q8_6, az_q8_7, az_z10, az_z60, az_z100, az_z1000, az_z1001, az_z10000, m4, f1, f2, f3, f5, f6, z6, h1, nI_1, nI_clamp (show j < 2 ^ 31 by omega)]
            exact hw
          | true =>
            simp only [h2, if_true] at hw f3
            cases h3 : s.testBit (j % 6) with
            | false =>
              simp only [h3, Bool.false_eq_true, if_false] at hw f4
              simp (maxDischargeDepth := 7) only [s106_5, s106_7, s106_10, s106_11, s106_14, s106_15, s106_18, s106_19, s106_20, s106_23, s106_24, s106_25, s106_27, s106_28, s106_29, s106_30, s106_31, s106_32, s106_35, s106_36, s106_37, s106_39, s106_40, s106_41, s106_42, s106_43, s106_44, s106_47, s106_48, s106_51, s106_52, s106_53, s106_56, s106_59, s106_60, g152_27, A175, az_ex, az_bk0, az_bk1, az_bkx, az_cat0, az_cati, az_catr, az_catl, az_vi, az_vr, az_bo0, az_bo1, az_boi, true_and, and_true, if_true, if_false, ne_eq, not_true_eq_false, not_false_eq_true, List.set_cons_zero, List.set_cons_succ, Nat.reduceAdd, Nat.reduceLeDiff, Nat.reduceEqDiff, ↓reduceIte, reduceCtorEq, Nat.reduceSub, Nat.reduceMul, Int32.reduceLT, Int32.reduceLE, Int32.reduceAdd, Int32.reduceMul, Int32.reduceSub, az_ne10, az_ne20, az_ne30, Nat.zero_le, az_q0_1, az_q0_2, az_q0_3, az_q0_4, az_q0_5, az_q0_6, az_q0_7, az_q0_8, az_q1_0, az_q1_2, az_q1_3, az_q1_4, az_q1_5, az_q1_6, az_q1_7, az_q1_8, az_q2_0, az_q2_1, az_q2_3, az_q2_4, az_q2_5, az_q2_6, az_q2_7, az_q2_8, az_q3_0, az_q3_1, az_q3_2, az_q3_4, az_q3_5, az_q3_6, az_q3_7, az_q3_8, az_q4_0, az_q4_1, az_q4_2, az_q4_3, az_q4_5, az_q4_6, az_q4_7, az_q4_8, az_q5_0, az_q5_1, az_q5_2, az_q5_3, az_q5_4, az_q5_6, az_q5_7, az_q5_8, az_q6_0, az_q6_1, az_q6_2, az_q6_3, az_q6_4, az_q6_5, az_q6_7, az_q6_8, az_q7_0, az_q7_1, az_q7_2, az_q7_3, az_q7_4, az_q7_5, az_q7_6, az_q7_8, az_q8_0, az_q8_1, az_q8_2, az_q8_3, az_q8_4, az_q8_5, az_q8_6, az_q8_7, az_z10, az_z60, az_z100, az_z1000, az_z1001, az_z10000, m4, f1, f2, f3, f4, f5, f6, z6, h1, nI_1, nI_clamp (show j < 2 ^ 31 by omega)]
              exact hw
            | true =>
              simp only [h3, if_true] at hw f4
              simp (maxDischargeDepth := 7) only [s106_5, s106_7, s106_10, s106_11, s106_14, s106_15, s106_18, s106_19, s106_20, s106_23, s106_24, s106_25, s106_27, s106_28, s106_29, s106_30, s106_31, s106_32, s106_35, s106_36, s106_37, s106_39, s106_40, s106_41, s106_42, s106_43, s106_44, s106_47, s106_48, s106_51, s106_52, s106_53, s106_56, s106_59, s106_60, g152_27, A175, az_ex, az_bk0, az_bk1, az_bkx, az_cat0, az_cati, az_catr, az_catl, az_vi, az_vr, az_bo0, az_bo1, az_boi, true_and, and_true, if_true, if_false, ne_eq, not_true_eq_false, not_false_eq_true, List.set_cons_zero, List.set_cons_succ, Nat.reduceAdd, Nat.reduceLeDiff, Nat.reduceEqDiff, ↓reduceIte, reduceCtorEq, Nat.reduceSub, Nat.reduceMul, Int32.reduceLT, Int32.reduceLE, Int32.reduceAdd, Int32.reduceMul, Int32.reduceSub, az_ne10, az_ne20, az_ne30, Nat.zero_le, az_q0_1, az_q0_2, az_q0_3, az_q0_4, az_q0_5, az_q0_6, az_q0_7, az_q0_8, az_q1_0, az_q1_2, az_q1_3, az_q1_4, az_q1_5, az_q1_6, az_q1_7, az_q1_8, az_q2_0, az_q2_1, az_q2_3, az_q2_4, az_q2_5, az_q2_6, az_q2_7, az_q2_8, az_q3_0, az_q3_1, az_q3_2, az_q3_4, az_q3_5, az_q3_6, az_q3_7, az_q3_8, az_q4_0, az_q4_1, az_q4_2, az_q4_3, az_q4_5, az_q4_6, az_q4_7, az_q4_8, az_q5_0, az_q5_1, az_q5_2, az_q5_3, az_q5_4, az_q5_6, az_q5_7, az_q5_8, az_q6_0, az_q6_1, az_q6_2, az_q6_3, az_q6_4, az_q6_5, az_q6_7, az_q6_8, az_q7_0, az_q7_1, az_q7_2, az_q7_3, az_q7_4, az_q7_5, az_q7_6, az_q7_8, az_q8_0, az_q8_1, az_q8_2, az_q8_3, az_q8_4, az_q8_5, az_q8_6, az_q8_7, az_z10, az_z60, az_z100, az_z1000, az_z1001, az_z10000, m4, f1, f2, f3, f4, f5, f6, z6, h1, nI_1, nI_clamp (show j < 2 ^ 31 by omega)]
              exact hw
      · simp only [az_q0_1, az_q0_2, az_q0_3, az_q0_4, az_q0_5, az_q0_6, az_q0_7, az_q0_8, az_q1_0, az_q1_2, az_q1_3, az_q1_4, az_q1_5, az_q1_6, az_q1_7, az_q1_8, az_q2_0, az_q2_1, az_q2_3, az_q2_4, az_q2_5, az_q2_6, az_q2_7, az_q2_8, az_q3_0, az_q3_1, az_q3_2, az_q3_4, az_q3_5, az_q3_6, az_q3_7, az_q3_8, az_q4_0, az_q4_1, az_q4_2, az_q4_3, az_q4_5, az_q4_6, az_q4_7, az_q4_8, az_q5_0, az_q5_1, az_q5_2, az_q5_3, az_q5_4, az_q5_6, az_q5_7, az_q5_8, az_q6_0, az_q6_1, az_q6_2, az_q6_3, az_q6_4, az_q6_5, az_q6_7, az_q6_8, az_q7_0, az_q7_1, az_q7_2, az_q7_3, az_q7_4, az_q7_5, az_q7_6, az_q7_8, az_q8_0, az_q8_1, az_q8_2, az_q8_3, az_q8_4, az_q8_5, az_q8_6, az_q8_7, az_z10, az_z60, az_z100, az_z1000, az_z1001, az_z10000, if_false] at hw
        simp (maxDischargeDepth := 7) only [s106_5, s106_7, s106_10, s106_11, s106_14, s106_15, s106_18, s106_19, s106_20, s106_23, s106_24, s106_25, s106_27, s106_28, s106_29, s106_30, s106_31, s106_32, s106_35, s106_36, s106_37, s106_39, s106_40, s106_41, s106_42, s106_43, s106_44, s106_47, s106_48, s106_51, s106_52, s106_53, s106_56, s106_59, s106_60, g152_27, A175, az_ex, az_bk0, az_bk1, az_bkx, az_cat0, az_cati, az_catr, az_catl, az_vi, az_vr, az_bo0, az_bo1, az_boi, true_and, and_true, if_true, if_false, ne_eq, not_true_eq_false, not_false_eq_true, List.set_cons_zero, List.set_cons_succ, Nat.reduceAdd, Nat.reduceLeDiff, Nat.reduceEqDiff, ↓reduceIte, reduceCtorEq, Nat.reduceSub, Nat.reduceMul, Int32.reduceLT, Int32.reduceLE, Int32.reduceAdd, Int32.reduceMul, Int32.reduceSub, az_ne10, az_ne20, az_ne30, Nat.zero_le, az_q0_1, az_q0_2, az_q0_3, az_q0_4, az_q0_5, az_q0_6, az_q0_7, az_q0_8, az_q1_0, az_q1_2, az_q1_3, az_q1_4, az_q1_5, az_q1_6, az_q1_7, az_q1_8, az_q2_0, az_q2_1, az_q2_3, az_q2_4, az_q2_5, az_q2_6, az_q2_7, az_q2_8, az_q3_0, az_q3_1, az_q3_2, az_q3_4, az_q3_5, az_q3_6, az_q3_7, az_q3_8, az_q4_0, az_q4_1, az_q4_2, az_q4_3, az_q4_5, az_q4_6, az_q4_7, az_q4_8, az_q5_0, az_q5_1, az_q5_2, az_q5_3, az_q5_4, az_q5_6, az_q5_7, az_q5_8, az_q6_0, az_q6_1, az_q6_2, az_q6_3, az_q6_4, az_q6_5, az_q6_7, az_q6_8, az_q7_0, az_q7_1, az_q7_2, az_q7_3, az_q7_4, az_q7_5, az_q7_6, az_q7_8, az_q8_0, az_q8_1, az_q8_2, az_q8_3, az_q8_4, az_q8_5, az_q8_6, az_q8_7, az_z10, az_z60, az_z100, az_z1000, az_z1001, az_z10000, m4, f1, f2, nI_1, nI_clamp (show j < 2 ^ 31 by omega)]
        exact hw
    · have f3 : ((36 : Int32) ≤ nI 36) = True := by decide
      refine s106_4.mpr ?_
      rcases hfin with ⟨h1, h2⟩ | ⟨h1, h2⟩
      · rw [h1]
        simp (maxDischargeDepth := 7) only [s106_5, s106_7, s106_10, s106_11, s106_14, s106_15, s106_18, s106_19, s106_20, s106_23, s106_24, s106_25, s106_27, s106_28, s106_29, s106_30, s106_31, s106_32, s106_35, s106_36, s106_37, s106_39, s106_40, s106_41, s106_42, s106_43, s106_44, s106_47, s106_48, s106_51, s106_52, s106_53, s106_56, s106_59, s106_60, g152_27, A175, az_ex, az_bk0, az_bk1, az_bkx, az_cat0, az_cati, az_catr, az_catl, az_vi, az_vr, az_bo0, az_bo1, az_boi, true_and, and_true, if_true, if_false, ne_eq, not_true_eq_false, not_false_eq_true, List.set_cons_zero, List.set_cons_succ, Nat.reduceAdd, Nat.reduceLeDiff, Nat.reduceEqDiff, ↓reduceIte, reduceCtorEq, Nat.reduceSub, Nat.reduceMul, Int32.reduceLT, Int32.reduceLE, Int32.reduceAdd, Int32.reduceMul, Int32.reduceSub, az_ne10, az_ne20, az_ne30, Nat.zero_le, f3]
        exact hK1 ((badB_ok hn hb hs).mpr h2)
      · rw [h1]
        simp (maxDischargeDepth := 7) only [s106_5, s106_7, s106_10, s106_11, s106_14, s106_15, s106_18, s106_19, s106_20, s106_23, s106_24, s106_25, s106_27, s106_28, s106_29, s106_30, s106_31, s106_32, s106_35, s106_36, s106_37, s106_39, s106_40, s106_41, s106_42, s106_43, s106_44, s106_47, s106_48, s106_51, s106_52, s106_53, s106_56, s106_59, s106_60, g152_27, A175, az_ex, az_bk0, az_bk1, az_bkx, az_cat0, az_cati, az_catr, az_catl, az_vi, az_vr, az_bo0, az_bo1, az_boi, true_and, and_true, if_true, if_false, ne_eq, not_true_eq_false, not_false_eq_true, List.set_cons_zero, List.set_cons_succ, Nat.reduceAdd, Nat.reduceLeDiff, Nat.reduceEqDiff, ↓reduceIte, reduceCtorEq, Nat.reduceSub, Nat.reduceMul, Int32.reduceLT, Int32.reduceLE, Int32.reduceAdd, Int32.reduceMul, Int32.reduceSub, az_ne10, az_ne20, az_ne30, Nat.zero_le, f3]
        obtain ⟨k, h3, h4⟩ := h2
        exact hK2 fun h => (badB_ok hn hb hs).mp h k h3 h4
  · intro j t hj hi
    unfold fbr
    rcases hi with ⟨rfl, h1⟩ | ⟨rfl, h1⟩
    · rw [if_pos rfl]
      by_cases h2 : badB A s j
      · rw [if_neg h2.1, if_pos h2.2.1, if_pos h2.2.2]
        exact Or.inr ⟨rfl, j, hj, h2⟩
      · have h3 : (if A 175 j = 0 then (0 : Int32) else if s.testBit (j / 6) = true then (if s.testBit (j % 6) = true then 1 else 0) else 0) = 0 := by
          split
          · rfl
          · split
            · split
              · rename_i h4 h5 h6
                exact absurd ⟨h4, h5, h6⟩ h2
              · rfl
            · rfl
        rw [h3]
        refine Or.inl ⟨rfl, fun k hk => ?_⟩
        by_cases h4 : k = j
        · rw [h4]; exact h2
        · exact h1 k (by omega)
    · rw [if_neg (by decide)]
      exact Or.inr ⟨rfl, h1⟩
theorem r107 {s : Nat} (hs : s < 64) : az_C xs (d + 1) 107 [.int (nI s)] (az_S, I, J, c, z) K ↔ K (0, some (.int (nI (cs s))), (az_S, I, J, c, z)) := by
  simp (maxDischargeDepth := 7) only [C107, th107, s107_0, s107_1, s107_2, s107_3, s107_4, s107_5, s107_7, s107_10, s107_11, s107_12, s107_13, s107_14, s107_15, s107_16, s107_17, s107_18, s107_21, s107_24, s107_25, az_ex, az_bk0, az_bk1, az_bkx, az_cat0, az_cati, az_catr, az_catl, az_vi, az_vr, az_bo0, az_bo1, az_boi, true_and, and_true, if_true, if_false, ne_eq, not_true_eq_false, not_false_eq_true, List.set_cons_zero, List.set_cons_succ, Nat.reduceAdd, Nat.reduceLeDiff, Nat.reduceEqDiff, ↓reduceIte, reduceCtorEq, Nat.reduceSub, Nat.reduceMul, Int32.reduceLT, Int32.reduceLE, Int32.reduceAdd, Int32.reduceMul, Int32.reduceSub, az_ne10, az_ne20, az_ne30, Nat.zero_le, Int32.reduceLE]
  have h : ∀ s, s < 64 → (0 : Int32) + (nI s >>> ((0 : Int32) &&& 31) &&& 1) + (nI s >>> ((1 : Int32) &&& 31) &&& 1) + (nI s >>> ((2 : Int32) &&& 31) &&& 1) + (nI s >>> ((3 : Int32) &&& 31) &&& 1) + (nI s >>> ((4 : Int32) &&& 31) &&& 1) + (nI s >>> ((5 : Int32) &&& 31) &&& 1) = nI (cs s) := by decide +kernel
  rw [h s hs]
end
