/-! the class's best price -/
def apI (I : Nat → Nat → Int32) (c k : Nat) : Nat := if I 37 c = 1 then k - k * (I 38 c).toNatClampNeg / 100 else k - (I 38 c).toNatClampNeg
def lsI (I : Nat → Nat → Int32) (c : Nat) : Nat := (I 39 c).toNatClampNeg
def bmI (I : Nat → Nat → Int32) (c : Nat) : Nat := (I 40 c).toNatClampNeg
theorem apI_le {I : Nat → Nat → Int32} : ∀ c k, apI I c k ≤ k := by
  intro c k
  unfold apI
  split
  · exact Nat.sub_le _ _
  · exact Nat.sub_le _ _
theorem bz_div {a b : Nat} (ha : a < 2 ^ 31) (hb : b < 2 ^ 31) : nI a / nI b = nI (a / b) := by
  have h1 : a / b ≤ a := Nat.div_le_self a b
  apply Int32.toInt_inj.mp
  rw [Int32.toInt_div, nI_toInt ha, nI_toInt hb, nI_toInt (by omega), ← Int.ofNat_tdiv]
  generalize a / b = q at h1 ⊢
  exact Int.bmod_eq_of_le (by omega) (by omega)
theorem bq4 {a b : Nat} (ha : a < 64) (hb : b < 64) : nI a ||| nI b = nI (a ||| b) := by
  have h : ∀ a, a < 64 → ∀ b, b < 64 → nI a ||| nI b = nI (a ||| b) := by decide +kernel
  exact h a ha b hb
theorem vcp_ls {I : Nat → Nat → Int32} {ng c : Nat} (h : az_vcp ng I) (hc : c < ng) : I 39 c = nI (lsI I c) ∧ lsI I c ≤ 500 := by
  obtain ⟨v, u, -, -, -, h1, h2⟩ := h c hc
  unfold lsI
  rw [h1, nI_clamp (by omega)]
  exact ⟨rfl, h2⟩
theorem ebar_bm {I : Nat → Nat → Int32} {c : Nat} (h : az_ebar I) (hc : c < 6) : I 40 c = nI (bmI I c) ∧ bmI I c < 64 ∧ (bmI I c).testBit c = false ∧ ∀ b, b < 6 → I 40 b = I 40 b ∧ (bmI I c).testBit b = (bmI I b).testBit c := by
  obtain ⟨m, h1, h2, h3, h4⟩ := h c hc
  have e : bmI I c = m := by
    unfold bmI
    rw [h2, nI_clamp (by omega)]
  rw [e]
  exact ⟨h2, h1, h3, fun b hb => ⟨rfl, (h4 b hb).symm⟩⟩
section
variable {xs : az_X} {d : Nat} {ng c z : Nat} {I : Nat → Nat → Int32} {J : Nat → Nat → Int64} {K : az_O → Prop}
theorem c4 {cp k : Nat} (hv : az_vcp ng I) (hn : ng ≤ 6) (hc : cp < ng) (hk : k < 1024) : az_C xs (d + 1) 4 [.ref 36, .int (nI cp), .int (nI k)] (az_S, I, J, c, z) K ↔ K (0, some (.int (nI (apI I cp k))), (az_S, I, J, c, z)) := by
  have f1 : az_in (nI cp) 6 = true := by rw [az_in_nI (by omega)]; simp; omega
  obtain ⟨v, u, h1, h2, h3, h4, h5⟩ := hv cp hc
  have h6 : (I 38 cp).toNatClampNeg = v := by rw [h3, nI_clamp (by omega)]
  have z100 : ((100 : Int32) = 0) = False := by decide
  unfold apI
  rw [h6]
  rcases h1 with ⟨h1, hv9⟩ | ⟨h1, hv9⟩
  · have hkv : k * v ≤ 1023 * 90 := Nat.mul_le_mul (by omega) hv9
    have e1 : nI k * nI v = nI (k * v) := bz_mul k v
    have e2 : nI (k * v) / 100 = nI (k * v / 100) := bz_div (b := 100) (by omega) (by omega)
    have hle : k * v / 100 ≤ k := by
      have h9 : k * v ≤ k * 90 := Nat.mul_le_mul_left k hv9
      omega
    have e3 : nI k - nI (k * v / 100) = nI (k - k * v / 100) := bz_sub hle
    simp (maxDischargeDepth := 7) only [C4, th4, s4_0, s4_1, s4_4, s4_5, s4_6, s4_9, s4_10, s4_11, s4_12, s4_15, s4_16, s4_17, s4_18, s4_20, s4_21, s4_22, s4_23, s4_24, s4_25, s4_26, s4_29, s4_30, s4_31, s4_32, s4_35, g36_0, A37, g36_1, A38, az_ex, az_bk0, az_bk1, az_bkx, az_cat0, az_cati, az_catr, az_catl, az_vi, az_vr, az_bo0, az_bo1, az_boi, true_and, and_true, if_true, if_false, ne_eq, not_true_eq_false, not_false_eq_true, List.set_cons_zero, List.set_cons_succ, Nat.reduceAdd, Nat.reduceLeDiff, Nat.reduceEqDiff, ↓reduceIte, reduceCtorEq, Nat.reduceSub, Nat.reduceMul, Int32.reduceLT, Int32.reduceLE, Int32.reduceAdd, Int32.reduceMul, Int32.reduceSub, az_ne10, az_ne20, az_ne30, Nat.zero_le, az_q0_1, az_q0_2, az_q0_3, az_q0_4, az_q0_5, az_q0_6, az_q0_7, az_q0_8, az_q1_0, az_q1_2, az_q1_3, az_q1_4, az_q1_5, az_q1_6, az_q1_7, az_q1_8, az_q2_0, az_q2_1, az_q2_3, az_q2_4, az_q2_5, az_q2_6, az_q2_7, az_q2_8, az_q3_0, az_q3_1, az_q3_2, az_q3_4, az_q3_5, az_q3_6, az_q3_7, az_q3_8, az_q4_0, az_q4_1, az_q4_2, az_q4_3, az_q4_5, az_q4_6, az_q4_7, az_q4_8, az_q5_0, az_q5_1, az_q5_2, az_q5_3, az_q5_4, az_q5_6, az_q5_7, az_q5_8, az_q6_0, az_q6_1, az_q6_2, az_q6_3, az_q6_4, az_q6_5, az_q6_7, az_q6_8, az_q7_0, az_q7_1, az_q7_2, az_q7_3, az_q7_4, az_q7_5, az_q7_6, az_q7_8, az_q8_0, az_q8_1, az_q8_2, az_q8_3, az_q8_4, az_q8_5, az_q8_6, az_q8_7, az_z10, az_z60, az_z100, az_z1000, az_z1001, az_z10000, f1, h1, h3, z100, e1, e2, e3, nI_clamp (show cp < 2 ^ 31 by omega)]
  · by_cases hkv : v < k
    · have e3 : nI k - nI v = nI (k - v) := bz_sub (by omega)
      have e4 : (0 < nI (k - v)) = True := by rw [show (0 : Int32) = nI 0 from rfl, bz_lt (by omega) (by omega)]; simp; omega
      simp (maxDischargeDepth := 7) only [C4, th4, s4_0, s4_1, s4_4, s4_5, s4_6, s4_9, s4_10, s4_11, s4_12, s4_15, s4_16, s4_17, s4_18, s4_20, s4_21, s4_22, s4_23, s4_24, s4_25, s4_26, s4_29, s4_30, s4_31, s4_32, s4_35, g36_0, A37, g36_1, A38, az_ex, az_bk0, az_bk1, az_bkx, az_cat0, az_cati, az_catr, az_catl, az_vi, az_vr, az_bo0, az_bo1, az_boi, true_and, and_true, if_true, if_false, ne_eq, not_true_eq_false, not_false_eq_true, List.set_cons_zero, List.set_cons_succ, Nat.reduceAdd, Nat.reduceLeDiff, Nat.reduceEqDiff, ↓reduceIte, reduceCtorEq, Nat.reduceSub, Nat.reduceMul, Int32.reduceLT, Int32.reduceLE, Int32.reduceAdd, Int32.reduceMul, Int32.reduceSub, az_ne10, az_ne20, az_ne30, Nat.zero_le, az_q0_1, az_q0_2, az_q0_3, az_q0_4, az_q0_5, az_q0_6, az_q0_7, az_q0_8, az_q1_0, az_q1_2, az_q1_3, az_q1_4, az_q1_5, az_q1_6, az_q1_7, az_q1_8, az_q2_0, az_q2_1, az_q2_3, az_q2_4, az_q2_5, az_q2_6, az_q2_7, az_q2_8, az_q3_0, az_q3_1, az_q3_2, az_q3_4, az_q3_5, az_q3_6, az_q3_7, az_q3_8, az_q4_0, az_q4_1, az_q4_2, az_q4_3, az_q4_5, az_q4_6, az_q4_7, az_q4_8, az_q5_0, az_q5_1, az_q5_2, az_q5_3, az_q5_4, az_q5_6, az_q5_7, az_q5_8, az_q6_0, az_q6_1, az_q6_2, az_q6_3, az_q6_4, az_q6_5, az_q6_7, az_q6_8, az_q7_0, az_q7_1, az_q7_2, az_q7_3, az_q7_4, az_q7_5, az_q7_6, az_q7_8, az_q8_0, az_q8_1, az_q8_2, az_q8_3, az_q8_4, az_q8_5, az_q8_6, az_q8_7, az_z10, az_z60, az_z100, az_z1000, az_z1001, az_z10000, f1, h1, h3, e3, e4, nI_clamp (show cp < 2 ^ 31 by omega)]
    · have e3 : (0 < nI k - nI v) = False := by
        apply eq_false
        rw [Int32.lt_iff_toInt_lt, fb_subI (by rw [nI_toInt (by omega), nI_toInt (by omega)]; omega) (by rw [nI_toInt (by omega), nI_toInt (by omega)]; omega), nI_toInt (by omega), nI_toInt (by omega), show (0 : Int32).toInt = 0 from rfl]
        omega
      have e4 : nI (k - v) = 0 := by rw [show k - v = 0 by omega]; rfl
      simp (maxDischargeDepth := 7) only [C4, th4, s4_0, s4_1, s4_4, s4_5, s4_6, s4_9, s4_10, s4_11, s4_12, s4_15, s4_16, s4_17, s4_18, s4_20, s4_21, s4_22, s4_23, s4_24, s4_25, s4_26, s4_29, s4_30, s4_31, s4_32, s4_35, g36_0, A37, g36_1, A38, az_ex, az_bk0, az_bk1, az_bkx, az_cat0, az_cati, az_catr, az_catl, az_vi, az_vr, az_bo0, az_bo1, az_boi, true_and, and_true, if_true, if_false, ne_eq, not_true_eq_false, not_false_eq_true, List.set_cons_zero, List.set_cons_succ, Nat.reduceAdd, Nat.reduceLeDiff, Nat.reduceEqDiff, ↓reduceIte, reduceCtorEq, Nat.reduceSub, Nat.reduceMul, Int32.reduceLT, Int32.reduceLE, Int32.reduceAdd, Int32.reduceMul, Int32.reduceSub, az_ne10, az_ne20, az_ne30, Nat.zero_le, az_q0_1, az_q0_2, az_q0_3, az_q0_4, az_q0_5, az_q0_6, az_q0_7, az_q0_8, az_q1_0, az_q1_2, az_q1_3, az_q1_4, az_q1_5, az_q1_6, az_q1_7, az_q1_8, az_q2_0, az_q2_1, az_q2_3, az_q2_4, az_q2_5, az_q2_6, az_q2_7, az_q2_8, az_q3_0, az_q3_1, az_q3_2, az_q3_4, az_q3_5, az_q3_6, az_q3_7, az_q3_8, az_q4_0, az_q4_1, az_q4_2, az_q4_3, az_q4_5, az_q4_6, az_q4_7, az_q4_8, az_q5_0, az_q5_1, az_q5_2, az_q5_3, az_q5_4, az_q5_6, az_q5_7, az_q5_8, az_q6_0, az_q6_1, az_q6_2, az_q6_3, az_q6_4, az_q6_5, az_q6_7, az_q6_8, az_q7_0, az_q7_1, az_q7_2, az_q7_3, az_q7_4, az_q7_5, az_q7_6, az_q7_8, az_q8_0, az_q8_1, az_q8_2, az_q8_3, az_q8_4, az_q8_5, az_q8_6, az_q8_7, az_z10, az_z60, az_z100, az_z1000, az_z1001, az_z10000, f1, h1, h3, e3, e4, nI_clamp (show cp < 2 ^ 31 by omega)]
theorem c6 (hv : az_vcp ng I) (hb : az_ebar I) (hn : ng ≤ 6) (h7 : I 36 7 = nI ng) : ∀ (f p cl : Nat) (K : az_O → Prop), f ≤ 6 → p < 1024 → cl < 64 → K (0, some (.int (nI (LF (apI I) (lsI I) (bmI I) ng f p cl))), (az_S, I, J, c, z)) → az_C xs (d + f + 2) 6 [.ref 36, .int (nI p), .int (nI cl), .int (nI (6 - f))] (az_S, I, J, c, z) K := by
  intro f
  induction f with
  | zero =>
    intro p cl K _ hp hcl hK
    have e1 : (nI (6 - 0) < 6) = False := by decide
    simp (maxDischargeDepth := 7) only [C6, th6, s6_0, s6_1, s6_3, s6_4, s6_6, s6_9, s6_11, s6_12, s6_13, s6_17, s6_18, s6_21, s6_24, s6_25, s6_27, s6_28, s6_29, s6_30, s6_33, s6_34, s6_35, s6_38, s6_40, s6_41, s6_44, s6_45, s6_47, s6_48, s6_51, s6_53, s6_55, s6_56, s6_59, s6_60, s6_61, s6_63, s6_64, s6_65, s6_66, s6_69, s6_71, s6_72, s6_73, s6_75, s6_77, s6_78, s6_80, s6_82, s6_83, s6_84, s6_85, s6_88, s6_91, s6_93, s6_96, s6_99, s6_101, g36_7, g36_2, A39, cc4, g36_3, A40, cc6, az_ex, az_bk0, az_bk1, az_bkx, az_cat0, az_cati, az_catr, az_catl, az_vi, az_vr, az_bo0, az_bo1, az_boi, true_and, and_true, if_true, if_false, ne_eq, not_true_eq_false, not_false_eq_true, List.set_cons_zero, List.set_cons_succ, Nat.reduceAdd, Nat.reduceLeDiff, Nat.reduceEqDiff, ↓reduceIte, reduceCtorEq, Nat.reduceSub, Nat.reduceMul, Int32.reduceLT, Int32.reduceLE, Int32.reduceAdd, Int32.reduceMul, Int32.reduceSub, az_ne10, az_ne20, az_ne30, Nat.zero_le, e1]
    exact hK
  | succ f ih =>
    intro p cl K hf hp hcl hK
    rw [show d + (f + 1) + 2 = (d + f + 2) + 1 by omega]
    have e1 : (nI (6 - (f + 1)) < 6) = True := by rw [show (6 : Int32) = nI 6 from rfl, bz_lt (by omega) (by omega)]; simp; omega
    have e2 : nI (6 - (f + 1)) + 1 = nI (6 - f) := by rw [nI_1, show 6 - (f + 1) + 1 = 6 - f by omega]
    have key := az_loopB (n := ng) (h := fun c s => if cl.testBit c = false then (if lsI I c ≤ p then (if apI I c p < p then (if LF (apI I) (lsI I) (bmI I) ng f (apI I c p) (sbb true cl c ||| bmI I c) < s then LF (apI I) (lsI I) (bmI I) ng f (apI I c p) (sbb true cl c ||| bmI I c) else s) else s) else s) else s) (Inv := fun _ s => s ≤ p) (W := fun j s => ∀ o6 o7, az_W xs (d + f + 2) 6 15 [some (.ref 36), some (.int (nI p)), some (.int (nI cl)), some (.int (nI (6 - (f + 1)))), some (.int (nI s)), some (.int (nI j)), o6, o7] [] (az_S, I, J, c, z) K) (fun j s _ hs => by (repeat' split) <;> omega) ?_ ng 0 p (Nat.zero_add _) (Nat.le_refl p) ?_
    · simp (maxDischargeDepth := 7) only [C6, th6, s6_0, s6_1, s6_3, s6_4, s6_6, s6_9, s6_11, s6_12, s6_13, s6_17, s6_18, s6_21, s6_24, s6_25, s6_27, s6_28, s6_29, s6_30, s6_33, s6_34, s6_35, s6_38, s6_40, s6_41, s6_44, s6_45, s6_47, s6_48, s6_51, s6_53, s6_55, s6_56, s6_59, s6_60, s6_61, s6_63, s6_64, s6_65, s6_66, s6_69, s6_71, s6_72, s6_73, s6_75, s6_77, s6_78, s6_80, s6_82, s6_83, s6_84, s6_85, s6_88, s6_91, s6_93, s6_96, s6_99, s6_101, g36_7, g36_2, A39, cc4, g36_3, A40, cc6, az_ex, az_bk0, az_bk1, az_bkx, az_cat0, az_cati, az_catr, az_catl, az_vi, az_vr, az_bo0, az_bo1, az_boi, true_and, and_true, if_true, if_false, ne_eq, not_true_eq_false, not_false_eq_true, List.set_cons_zero, List.set_cons_succ, Nat.reduceAdd, Nat.reduceLeDiff, Nat.reduceEqDiff, ↓reduceIte, reduceCtorEq, Nat.reduceSub, Nat.reduceMul, Int32.reduceLT, Int32.reduceLE, Int32.reduceAdd, Int32.reduceMul, Int32.reduceSub, az_ne10, az_ne20, az_ne30, Nat.zero_le, e1]
      exact key none none
    · intro j s hj hs hw o6 o7
      have f1 : az_in (nI j) 6 = true := by rw [az_in_nI (by omega)]; simp; omega
      have f2 : (nI ng ≤ nI j) = False := by rw [bz_le (by omega) (by omega)]; simp; omega
      have f3 := bq1 hcl (show j < 6 by omega)
      obtain ⟨l1, l2⟩ := vcp_ls hv hj
      obtain ⟨b1, b2, -⟩ := ebar_bm hb (show j < 6 by omega)
      have f4 := bq2 hcl (show j < 6 by omega)
      have hsb := sbb_l true cl j hcl (show j < 6 by omega)
      have f5 := bq4 hsb b2
      have hap := apI_le (I := I) j p
      have hor : sbb true cl j ||| bmI I j < 64 := Nat.or_lt_two_pow (n := 6) hsb b2
      refine s6_15.mpr ?_
      cases hbit : cl.testBit j with
      | true =>
        simp only [hbit, Bool.true_eq_false, if_false] at hw
        simp only [hbit, if_true] at f3
        simp (maxDischargeDepth := 7) only [s6_12, s6_13, s6_17, s6_18, s6_21, s6_24, s6_25, s6_27, s6_28, s6_29, s6_30, s6_33, s6_34, s6_35, s6_38, s6_40, s6_41, s6_44, s6_45, s6_47, s6_48, s6_51, s6_53, s6_55, s6_56, s6_59, s6_60, s6_61, s6_63, s6_64, s6_65, s6_66, s6_69, s6_71, s6_72, s6_73, s6_75, s6_77, s6_78, s6_80, s6_82, s6_83, s6_84, s6_85, s6_88, s6_91, s6_93, s6_96, s6_99, s6_101, g36_7, g36_2, A39, cc4, g36_3, A40, cc6, az_ex, az_bk0, az_bk1, az_bkx, az_cat0, az_cati, az_catr, az_catl, az_vi, az_vr, az_bo0, az_bo1, az_boi, true_and, and_true, if_true, if_false, ne_eq, not_true_eq_false, not_false_eq_true, List.set_cons_zero, List.set_cons_succ, Nat.reduceAdd, Nat.reduceLeDiff, Nat.reduceEqDiff, ↓reduceIte, reduceCtorEq, Nat.reduceSub, Nat.reduceMul, Int32.reduceLT, Int32.reduceLE, Int32.reduceAdd, Int32.reduceMul, Int32.reduceSub, az_ne10, az_ne20, az_ne30, Nat.zero_le, az_q0_1, az_q0_2, az_q0_3, az_q0_4, az_q0_5, az_q0_6, az_q0_7, az_q0_8, az_q1_0, az_q1_2, az_q1_3, az_q1_4, az_q1_5, az_q1_6, az_q1_7, az_q1_8, az_q2_0, az_q2_1, az_q2_3, az_q2_4, az_q2_5, az_q2_6, az_q2_7, az_q2_8, az_q3_0, az_q3_1, az_q3_2, az_q3_4, az_q3_5, az_q3_6, az_q3_7, az_q3_8, az_q4_0, az_q4_1, az_q4_2, az_q4_3, az_q4_5, az_q4_6, az_q4_7, az_q4_8, az_q5_0, az_q5_1, az_q5_2, az_q5_3, az_q5_4, az_q5_6, az_q5_7, az_q5_8, az_q6_0, az_q6_1, az_q6_2, az_q6_3, az_q6_4, az_q6_5, az_q6_7, az_q6_8, az_q7_0, az_q7_1, az_q7_2, az_q7_3, az_q7_4, az_q7_5, az_q7_6, az_q7_8, az_q8_0, az_q8_1, az_q8_2, az_q8_3, az_q8_4, az_q8_5, az_q8_6, az_q8_7, az_z10, az_z60, az_z100, az_z1000, az_z1001, az_z10000, h7, f1, f2, f3, nI_1, nI_clamp (show j < 2 ^ 31 by omega)]
        exact hw _ _
      | false =>
        simp only [hbit, if_true] at hw
        simp only [hbit, Bool.false_eq_true, if_false] at f3
        by_cases hls : lsI I j ≤ p
        · have g1 : (nI p < nI (lsI I j)) = False := by rw [bz_lt (by omega) (by omega)]; simp; omega
          simp only [hls, if_true] at hw
          by_cases hlt : apI I j p < p
          · have g2 : (nI p ≤ nI (apI I j p)) = False := by rw [bz_le (by omega) (by omega)]; simp; omega
            simp only [hlt, if_true] at hw
            simp (maxDischargeDepth := 7) only [s6_12, s6_13, s6_17, s6_18, s6_21, s6_24, s6_25, s6_27, s6_28, s6_29, s6_30, s6_33, s6_34, s6_35, s6_38, s6_40, s6_41, s6_44, s6_45, s6_47, s6_48, s6_51, s6_53, s6_55, s6_56, s6_59, s6_60, s6_61, s6_63, s6_64, s6_65, s6_66, s6_69, s6_71, s6_72, s6_73, s6_75, s6_77, s6_78, s6_80, s6_82, s6_83, s6_84, s6_85, s6_88, s6_91, s6_93, s6_96, s6_99, s6_101, g36_7, g36_2, A39, cc4, g36_3, A40, cc6, az_ex, az_bk0, az_bk1, az_bkx, az_cat0, az_cati, az_catr, az_catl, az_vi, az_vr, az_bo0, az_bo1, az_boi, true_and, and_true, if_true, if_false, ne_eq, not_true_eq_false, not_false_eq_true, List.set_cons_zero, List.set_cons_succ, Nat.reduceAdd, Nat.reduceLeDiff, Nat.reduceEqDiff, ↓reduceIte, reduceCtorEq, Nat.reduceSub, Nat.reduceMul, Int32.reduceLT, Int32.reduceLE, Int32.reduceAdd, Int32.reduceMul, Int32.reduceSub, az_ne10, az_ne20, az_ne30, Nat.zero_le, az_q0_1, az_q0_2, az_q0_3, az_q0_4, az_q0_5, az_q0_6, az_q0_7, az_q0_8, az_q1_0, az_q1_2, az_q1_3, az_q1_4, az_q1_5, az_q1_6, az_q1_7, az_q1_8, az_q2_0, az_q2_1, az_q2_3, az_q2_4, az_q2_5, az_q2_6, az_q2_7, az_q2_8, az_q3_0, az_q3_1, az_q3_2, az_q3_4, az_q3_5, az_q3_6, az_q3_7, az_q3_8, az_q4_0, az_q4_1, az_q4_2, az_q4_3, az_q4_5, az_q4_6, az_q4_7, az_q4_8, az_q5_0, az_q5_1, az_q5_2, az_q5_3, az_q5_4, az_q5_6, az_q5_7, az_q5_8, az_q6_0, az_q6_1, az_q6_2, az_q6_3, az_q6_4, az_q6_5, az_q6_7, az_q6_8, az_q7_0, az_q7_1, az_q7_2, az_q7_3, az_q7_4, az_q7_5, az_q7_6, az_q7_8, az_q8_0, az_q8_1, az_q8_2, az_q8_3, az_q8_4, az_q8_5, az_q8_6, az_q8_7, az_z10, az_z60, az_z100, az_z1000, az_z1001, az_z10000, h7, f1, f2, f3, f4, f5, l1, b1, g1, g2, e2, c4 hv hn hj hp, nI_1, nI_clamp (show j < 2 ^ 31 by omega)]
            refine ih _ _ _ (by omega) (by omega) hor ?_
            have hLF : LF (apI I) (lsI I) (bmI I) ng f (apI I j p) (sbb true cl j ||| bmI I j) ≤ apI I j p := LF_le_p
            have g3 : (nI (LF (apI I) (lsI I) (bmI I) ng f (apI I j p) (sbb true cl j ||| bmI I j)) < nI s) = (LF (apI I) (lsI I) (bmI I) ng f (apI I j p) (sbb true cl j ||| bmI I j) < s) := bz_lt (by omega) (by omega)
            by_cases h9 : LF (apI I) (lsI I) (bmI I) ng f (apI I j p) (sbb true cl j ||| bmI I j) < s
            · simp only [h9, if_true] at hw
              simp (maxDischargeDepth := 7) only [s6_12, s6_13, s6_17, s6_18, s6_21, s6_24, s6_25, s6_27, s6_28, s6_29, s6_30, s6_33, s6_34, s6_35, s6_38, s6_40, s6_41, s6_44, s6_45, s6_47, s6_48, s6_51, s6_53, s6_55, s6_56, s6_59, s6_60, s6_61, s6_63, s6_64, s6_65, s6_66, s6_69, s6_71, s6_72, s6_73, s6_75, s6_77, s6_78, s6_80, s6_82, s6_83, s6_84, s6_85, s6_88, s6_91, s6_93, s6_96, s6_99, s6_101, g36_7, g36_2, A39, cc4, g36_3, A40, cc6, az_ex, az_bk0, az_bk1, az_bkx, az_cat0, az_cati, az_catr, az_catl, az_vi, az_vr, az_bo0, az_bo1, az_boi, true_and, and_true, if_true, if_false, ne_eq, not_true_eq_false, not_false_eq_true, List.set_cons_zero, List.set_cons_succ, Nat.reduceAdd, Nat.reduceLeDiff, Nat.reduceEqDiff, ↓reduceIte, reduceCtorEq, Nat.reduceSub, Nat.reduceMul, Int32.reduceLT, Int32.reduceLE, Int32.reduceAdd, Int32.reduceMul, Int32.reduceSub, az_ne10, az_ne20, az_ne30, Nat.zero_le, g3, h9, nI_1]
              exact hw _ _
            · simp only [h9, if_false] at hw
              simp (maxDischargeDepth := 7) only [s6_12, s6_13, s6_17, s6_18, s6_21, s6_24, s6_25, s6_27, s6_28, s6_29, s6_30, s6_33, s6_34, s6_35, s6_38, s6_40, s6_41, s6_44, s6_45, s6_47, s6_48, s6_51, s6_53, s6_55, s6_56, s6_59, s6_60, s6_61, s6_63, s6_64, s6_65, s6_66, s6_69, s6_71, s6_72, s6_73, s6_75, s6_77, s6_78, s6_80, s6_82, s6_83, s6_84, s6_85, s6_88, s6_91, s6_93, s6_96, s6_99, s6_101, g36_7, g36_2, A39, cc4, g36_3, A40, cc6, az_ex, az_bk0, az_bk1, az_bkx, az_cat0, az_cati, az_catr, az_catl, az_vi, az_vr, az_bo0, az_bo1, az_boi, true_and, and_true, if_true, if_false, ne_eq, not_true_eq_false, not_false_eq_true, List.set_cons_zero, List.set_cons_succ, Nat.reduceAdd, Nat.reduceLeDiff, Nat.reduceEqDiff, ↓reduceIte, reduceCtorEq, Nat.reduceSub, Nat.reduceMul, Int32.reduceLT, Int32.reduceLE, Int32.reduceAdd, Int32.reduceMul, Int32.reduceSub, az_ne10, az_ne20, az_ne30, Nat.zero_le, g3, h9, nI_1]
              exact hw _ _
          · have g2 : (nI p ≤ nI (apI I j p)) = True := by rw [bz_le (by omega) (by omega)]; simp; omega
            simp only [hlt, if_false] at hw
            simp (maxDischargeDepth := 7) only [s6_12, s6_13, s6_17, s6_18, s6_21, s6_24, s6_25, s6_27, s6_28, s6_29, s6_30, s6_33, s6_34, s6_35, s6_38, s6_40, s6_41, s6_44, s6_45, s6_47, s6_48, s6_51, s6_53, s6_55, s6_56, s6_59, s6_60, s6_61, s6_63, s6_64, s6_65, s6_66, s6_69, s6_71, s6_72, s6_73, s6_75, s6_77, s6_78, s6_80, s6_82, s6_83, s6_84, s6_85, s6_88, s6_91, s6_93, s6_96, s6_99, s6_101, g36_7, g36_2, A39, cc4, g36_3, A40, cc6, az_ex, az_bk0, az_bk1, az_bkx, az_cat0, az_cati, az_catr, az_catl, az_vi, az_vr, az_bo0, az_bo1, az_boi, true_and, and_true, if_true, if_false, ne_eq, not_true_eq_false, not_false_eq_true, List.set_cons_zero, List.set_cons_succ, Nat.reduceAdd, Nat.reduceLeDiff, Nat.reduceEqDiff, ↓reduceIte, reduceCtorEq, Nat.reduceSub, Nat.reduceMul, Int32.reduceLT, Int32.reduceLE, Int32.reduceAdd, Int32.reduceMul, Int32.reduceSub, az_ne10, az_ne20, az_ne30, Nat.zero_le, az_q0_1, az_q0_2, az_q0_3, az_q0_4, az_q0_5, az_q0_6, az_q0_7, az_q0_8, az_q1_0, az_q1_2, az_q1_3, az_q1_4, az_q1_5, az_q1_6, az_q1_7, az_q1_8, az_q2_0, az_q2_1, az_q2_3, az_q2_4, az_q2_5, az_q2_6, az_q2_7, az_q2_8, az_q3_0, az_q3_1, az_q3_2, az_q3_4, az_q3_5, az_q3_6, az_q3_7, az_q3_8, az_q4_0, az_q4_1, az_q4_2, az_q4_3, az_q4_5, az_q4_6, az_q4_7, az_q4_8, az_q5_0, az_q5_1, az_q5_2, az_q5_3, az_q5_4, az_q5_6, az_q5_7, az_q5_8, az_q6_0, az_q6_1, az_q6_2, az_q6_3, az_q6_4, az_q6_5, az_q6_7, az_q6_8, az_q7_0, az_q7_1, az_q7_2, az_q7_3, az_q7_4, az_q7_5, az_q7_6, az_q7_8, az_q8_0, az_q8_1, az_q8_2, az_q8_3, az_q8_4, az_q8_5, az_q8_6, az_q8_7, az_z10, az_z60, az_z100, az_z1000, az_z1001, az_z10000, h7, f1, f2, f3, l1, g1, g2, c4 hv hn hj hp, nI_1, nI_clamp (show j < 2 ^ 31 by omega)]
            exact hw _ _
        · have g1 : (nI p < nI (lsI I j)) = True := by rw [bz_lt (by omega) (by omega)]; simp; omega
          simp only [hls, if_false] at hw
          simp (maxDischargeDepth := 7) only [s6_12, s6_13, s6_17, s6_18, s6_21, s6_24, s6_25, s6_27, s6_28, s6_29, s6_30, s6_33, s6_34, s6_35, s6_38, s6_40, s6_41, s6_44, s6_45, s6_47, s6_48, s6_51, s6_53, s6_55, s6_56, s6_59, s6_60, s6_61, s6_63, s6_64, s6_65, s6_66, s6_69, s6_71, s6_72, s6_73, s6_75, s6_77, s6_78, s6_80, s6_82, s6_83, s6_84, s6_85, s6_88, s6_91, s6_93, s6_96, s6_99, s6_101, g36_7, g36_2, A39, cc4, g36_3, A40, cc6, az_ex, az_bk0, az_bk1, az_bkx, az_cat0, az_cati, az_catr, az_catl, az_vi, az_vr, az_bo0, az_bo1, az_boi, true_and, and_true, if_true, if_false, ne_eq, not_true_eq_false, not_false_eq_true, List.set_cons_zero, List.set_cons_succ, Nat.reduceAdd, Nat.reduceLeDiff, Nat.reduceEqDiff, ↓reduceIte, reduceCtorEq, Nat.reduceSub, Nat.reduceMul, Int32.reduceLT, Int32.reduceLE, Int32.reduceAdd, Int32.reduceMul, Int32.reduceSub, az_ne10, az_ne20, az_ne30, Nat.zero_le, az_q0_1, az_q0_2, az_q0_3, az_q0_4, az_q0_5, az_q0_6, az_q0_7, az_q0_8, az_q1_0, az_q1_2, az_q1_3, az_q1_4, az_q1_5, az_q1_6, az_q1_7, az_q1_8, az_q2_0, az_q2_1, az_q2_3, az_q2_4, az_q2_5, az_q2_6, az_q2_7, az_q2_8, az_q3_0, az_q3_1, az_q3_2, az_q3_4, az_q3_5, az_q3_6, az_q3_7, az_q3_8, az_q4_0, az_q4_1, az_q4_2, az_q4_3, az_q4_5, az_q4_6, az_q4_7, az_q4_8, az_q5_0, az_q5_1, az_q5_2, az_q5_3, az_q5_4, az_q5_6, az_q5_7, az_q5_8, az_q6_0, az_q6_1, az_q6_2, az_q6_3, az_q6_4, az_q6_5, az_q6_7, az_q6_8, az_q7_0, az_q7_1, az_q7_2, az_q7_3, az_q7_4, az_q7_5, az_q7_6, az_q7_8, az_q8_0, az_q8_1, az_q8_2, az_q8_3, az_q8_4, az_q8_5, az_q8_6, az_q8_7, az_z10, az_z60, az_z100, az_z1000, az_z1001, az_z10000, h7, f1, f2, f3, l1, g1, nI_1, nI_clamp (show j < 2 ^ 31 by omega)]
          exact hw _ _
    · intro o6 o7
      have f3 : (nI ng ≤ nI ng) = True := by rw [bz_le (by omega) (by omega)]; simp
      refine s6_15.mpr ?_
      simp (maxDischargeDepth := 7) only [s6_12, s6_13, s6_17, s6_18, s6_21, s6_24, s6_25, s6_27, s6_28, s6_29, s6_30, s6_33, s6_34, s6_35, s6_38, s6_40, s6_41, s6_44, s6_45, s6_47, s6_48, s6_51, s6_53, s6_55, s6_56, s6_59, s6_60, s6_61, s6_63, s6_64, s6_65, s6_66, s6_69, s6_71, s6_72, s6_73, s6_75, s6_77, s6_78, s6_80, s6_82, s6_83, s6_84, s6_85, s6_88, s6_91, s6_93, s6_96, s6_99, s6_101, g36_7, g36_2, A39, cc4, g36_3, A40, cc6, az_ex, az_bk0, az_bk1, az_bkx, az_cat0, az_cati, az_catr, az_catl, az_vi, az_vr, az_bo0, az_bo1, az_boi, true_and, and_true, if_true, if_false, ne_eq, not_true_eq_false, not_false_eq_true, List.set_cons_zero, List.set_cons_succ, Nat.reduceAdd, Nat.reduceLeDiff, Nat.reduceEqDiff, ↓reduceIte, reduceCtorEq, Nat.reduceSub, Nat.reduceMul, Int32.reduceLT, Int32.reduceLE, Int32.reduceAdd, Int32.reduceMul, Int32.reduceSub, az_ne10, az_ne20, az_ne30, Nat.zero_le, h7, f3]
      exact hK
theorem c5 {p : Nat} (hv : az_vcp ng I) (hb : az_ebar I) (hn : ng ≤ 6) (h7 : I 36 7 = nI ng) (hp : p < 1024) (hK : K (0, some (.int (nI (LF (apI I) (lsI I) (bmI I) ng 6 p 0))), (az_S, I, J, c, z))) : az_C xs (d + 9) 5 [.ref 36, .int (nI p)] (az_S, I, J, c, z) K := by
  simp (maxDischargeDepth := 7) only [C5, th5, s5_0, s5_1, s5_2, s5_3, s5_4, s5_7, cc6, az_ex, az_bk0, az_bk1, az_bkx, az_cat0, az_cati, az_catr, az_catl, az_vi, az_vr, az_bo0, az_bo1, az_boi, true_and, and_true, if_true, if_false, ne_eq, not_true_eq_false, not_false_eq_true, List.set_cons_zero, List.set_cons_succ, Nat.reduceAdd, Nat.reduceLeDiff, Nat.reduceEqDiff, ↓reduceIte, reduceCtorEq, Nat.reduceSub, Nat.reduceMul, Int32.reduceLT, Int32.reduceLE, Int32.reduceAdd, Int32.reduceMul, Int32.reduceSub, az_ne10, az_ne20, az_ne30, Nat.zero_le]
  refine c6 (d := d) hv hb hn h7 6 p 0 _ (Nat.le_refl _) hp (by decide) ?_
  simp (maxDischargeDepth := 7) only [C5, th5, s5_0, s5_1, s5_2, s5_3, s5_4, s5_7, cc6, az_ex, az_bk0, az_bk1, az_bkx, az_cat0, az_cati, az_catr, az_catl, az_vi, az_vr, az_bo0, az_bo1, az_boi, true_and, and_true, if_true, if_false, ne_eq, not_true_eq_false, not_false_eq_true, List.set_cons_zero, List.set_cons_succ, Nat.reduceAdd, Nat.reduceLeDiff, Nat.reduceEqDiff, ↓reduceIte, reduceCtorEq, Nat.reduceSub, Nat.reduceMul, Int32.reduceLT, Int32.reduceLE, Int32.reduceAdd, Int32.reduceMul, Int32.reduceSub, az_ne10, az_ne20, az_ne30, Nat.zero_le]
  exact hK
end
