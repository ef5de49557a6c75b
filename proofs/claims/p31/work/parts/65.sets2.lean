/-! all sets, by the class: its loops -/
section
variable {xs : az_X} {d : Nat} {ng c z : Nat} {I I' : Nat → Nat → Int32} {J : Nat → Nat → Int64} {K : az_O → Prop}
theorem c10l {s cp w D : Nat} {pr : Int32} (hv : az_vcp ng I) (hn : ng ≤ 6) (hc : cp < ng) (hs : s < D) (hD : D ≤ 64) (hw : w < 32) : ∀ (m N : Nat) (M : Nat → Nat → Prop) (lo sz : Nat) (I' : Nat → Nat → Int32) (o7 o8 : Option Value), pcN N = m → N < 2 ^ 32 → lo < 1024 → sz ≤ 6 → rG I I' M D lo sz → LX M lo sz → (∀ I'' M' lo' sz', lo' < 1024 → sz' ≤ 6 → rG I I'' M' D lo' sz' → LX M' lo' sz' → (∀ s' q, M' s' q ↔ M s' q ∨ (s' = s ∧ ∃ b, b < 32 ∧ N.testBit b = true ∧ lsI I cp ≤ 32 * w + b ∧ q = apI I cp (32 * w + b))) → K (0, none, (az_S, I'', J, c, z))) → az_W xs (d + 2) 10 11 [some (.ref 36), some (.int (nI s)), some (.int (nI cp)), some (.int (nI w)), some (.int pr), some (.int (nI N)), some (.int (nI m)), o7, o8] [] (az_S, I', J, c, z) K := by
  intro m
  induction m with
  | zero =>
    intro N M lo sz I' o7 o8 hm hN hlo hsz hR hX hK
    have h0 := pcN_0 hN hm
    subst h0
    refine s10_11.mpr ?_
    simp (maxDischargeDepth := 7) only [C10, th10, s10_0, s10_2, s10_4, s10_6, s10_9, s10_13, s10_16, s10_18, s10_20, s10_21, s10_22, s10_23, s10_24, s10_27, s10_29, s10_30, s10_32, s10_33, s10_35, s10_36, s10_38, s10_40, s10_41, s10_44, s10_45, s10_46, s10_49, s10_50, s10_51, s10_52, s10_53, s10_55, s10_58, s10_61, s10_63, s10_65, s10_66, s10_67, s10_68, s10_70, s10_73, s10_76, cc87, g36_2, A39, cc4, cc11, az_ex, az_bk0, az_bk1, az_bkx, az_cat0, az_cati, az_catr, az_catl, az_vi, az_vr, az_bo0, az_bo1, az_boi, true_and, and_true, if_true, if_false, ne_eq, not_true_eq_false, not_false_eq_true, List.set_cons_zero, List.set_cons_succ, Nat.reduceAdd, Nat.reduceLeDiff, Nat.reduceEqDiff, ↓reduceIte, reduceCtorEq, Nat.reduceSub, Nat.reduceMul, Int32.reduceLT, Int32.reduceLE, Int32.reduceAdd, Int32.reduceMul, Int32.reduceSub, az_ne10, az_ne20, az_ne30, Nat.zero_le, bz_00]
    refine hK I' M lo sz hlo hsz hR hX fun s' q => ⟨Or.inl, fun h => ?_⟩
    rcases h with h | ⟨-, b, -, h, -⟩
    · exact h
    · simp at h
  | succ m ih =>
    intro N M lo sz I' o7 o8 hm hN hlo hsz hR hX hK
    have hN0 : N ≠ 0 := by
      intro h
      rw [h] at hm
      have : pcN 0 = 0 := by decide
      omega
    obtain ⟨b, hb, hbt, hlow, hclr⟩ := low_bit hN0 hN
    have hdn := pcN_dn hb hbt hclr
    have hm31 : pcN N ≤ 32 := fb_ct_le _ 32
    have e1 : nI N &&& -(nI N) = nI (2 ^ b) := by rw [bw_neg hN, bw_and, hlow]
    have e2 : nI (2 ^ b) - 1 = nI (2 ^ b - 1) := bz_sub (b := 1) (Nat.two_pow_pos b)
    have e3 : nI N &&& (nI N - 1) = nI (N &&& (N - 1)) := by
      have : nI N - 1 = nI (N - 1) := bz_sub (b := 1) (by omega)
      rw [this, bw_and]
    have hpb : 2 ^ b - 1 < 2 ^ 32 := Nat.lt_of_le_of_lt (Nat.sub_le _ _) (Nat.pow_lt_pow_right (by decide) hb)
    have e4 : ∀ K' : az_O → Prop, ∀ G, az_C xs (d + 2) 87 [.int (nI (2 ^ b - 1))] G K' ↔ K' (0, some (.int (nI b)), G) := fun K' G => by rw [c142 (d := d + 1) hpb, pcN_pw b hb]
    have e5 : nI w * 32 + nI b = nI (32 * w + b) := by
      show nI w * nI 32 + nI b = _
      rw [bz_mul, bz_add, Nat.mul_comm]
    have f1 : az_in (nI cp) 6 = true := by rw [az_in_nI (by omega)]; simp; omega
    obtain ⟨l1, l2⟩ := vcp_ls hv hc
    have e37 : I' 37 = I 37 := hR.2.2.2 37 (by decide) (by decide)
    have e38 : I' 38 = I 38 := hR.2.2.2 38 (by decide) (by decide)
    have e39 : I' 39 = I 39 := hR.2.2.2 39 (by decide) (by decide)
    have hv' : az_vcp ng I' := by
      unfold az_vcp at hv ⊢
      rw [e37, e38, e39]
      exact hv
    have hap' : ∀ k, apI I' cp k = apI I cp k := fun k => by unfold apI; rw [e37, e38]
    have hap := apI_le (I := I) cp (32 * w + b)
    have f2 : (nI (32 * w + b) < nI (lsI I cp)) = (32 * w + b < lsI I cp) := bz_lt (by omega) (by omega)
    have hcl : N &&& (N - 1) < 2 ^ 32 := Nat.lt_of_le_of_lt Nat.and_le_left hN
    refine s10_11.mpr ?_
    by_cases hls : lsI I cp ≤ 32 * w + b
    · have f2t : (nI (32 * w + b) < nI (lsI I cp)) = False := by rw [f2]; simp; omega
      have e6 : ∀ K' : az_O → Prop, az_C xs (d + 2) 4 [.ref 36, .int (nI cp), .int (nI (32 * w + b))] (az_S, I', J, c, z) K' ↔ K' (0, some (.int (nI (apI I cp (32 * w + b)))), (az_S, I', J, c, z)) := fun K' => by rw [c4 (d := d + 1) hv' hn hc (by omega), hap']
      simp (maxDischargeDepth := 7) only [C10, th10, s10_0, s10_2, s10_4, s10_6, s10_9, s10_13, s10_16, s10_18, s10_20, s10_21, s10_22, s10_23, s10_24, s10_27, s10_29, s10_30, s10_32, s10_33, s10_35, s10_36, s10_38, s10_40, s10_41, s10_44, s10_45, s10_46, s10_49, s10_50, s10_51, s10_52, s10_53, s10_55, s10_58, s10_61, s10_63, s10_65, s10_66, s10_67, s10_68, s10_70, s10_73, s10_76, cc87, g36_2, A39, cc4, cc11, az_ex, az_bk0, az_bk1, az_bkx, az_cat0, az_cati, az_catr, az_catl, az_vi, az_vr, az_bo0, az_bo1, az_boi, true_and, and_true, if_true, if_false, ne_eq, not_true_eq_false, not_false_eq_true, List.set_cons_zero, List.set_cons_succ, Nat.reduceAdd, Nat.reduceLeDiff, Nat.reduceEqDiff, ↓reduceIte, reduceCtorEq, Nat.reduceSub, Nat.reduceMul, Int32.reduceLT, Int32.reduceLE, Int32.reduceAdd, Int32.reduceMul, Int32.reduceSub, az_ne10, az_ne20, az_ne30, Nat.zero_le, az_q0_1, az_q0_2, az_q0_3, az_q0_4, az_q0_5, az_q0_6, az_q0_7, az_q0_8, az_q1_0, az_q1_2, az_q1_3, az_q1_4, az_q1_5, az_q1_6, az_q1_7, az_q1_8, az_q2_0, az_q2_1, az_q2_3, az_q2_4, az_q2_5, az_q2_6, az_q2_7, az_q2_8, az_q3_0, az_q3_1, az_q3_2, az_q3_4, az_q3_5, az_q3_6, az_q3_7, az_q3_8, az_q4_0, az_q4_1, az_q4_2, az_q4_3, az_q4_5, az_q4_6, az_q4_7, az_q4_8, az_q5_0, az_q5_1, az_q5_2, az_q5_3, az_q5_4, az_q5_6, az_q5_7, az_q5_8, az_q6_0, az_q6_1, az_q6_2, az_q6_3, az_q6_4, az_q6_5, az_q6_7, az_q6_8, az_q7_0, az_q7_1, az_q7_2, az_q7_3, az_q7_4, az_q7_5, az_q7_6, az_q7_8, az_q8_0, az_q8_1, az_q8_2, az_q8_3, az_q8_4, az_q8_5, az_q8_6, az_q8_7, az_z10, az_z60, az_z100, az_z1000, az_z1001, az_z10000, bz_s0 (show m + 1 < 2 ^ 31 by omega), e1, e2, e3, e4, e5, e6, f1, f2t, l1, e39, nI_clamp (show cp < 2 ^ 31 by omega)]
      refine c11 hs hD (show apI I cp (32 * w + b) < 1024 by omega) hlo hsz hR ?_
      intro I2 hR2
      have hX2 := LX_add (s := s) (q := apI I cp (32 * w + b)) hX
      simp (maxDischargeDepth := 7) only [C10, th10, s10_0, s10_2, s10_4, s10_6, s10_9, s10_13, s10_16, s10_18, s10_20, s10_21, s10_22, s10_23, s10_24, s10_27, s10_29, s10_30, s10_32, s10_33, s10_35, s10_36, s10_38, s10_40, s10_41, s10_44, s10_45, s10_46, s10_49, s10_50, s10_51, s10_52, s10_53, s10_55, s10_58, s10_61, s10_63, s10_65, s10_66, s10_67, s10_68, s10_70, s10_73, s10_76, cc87, g36_2, A39, cc4, cc11, az_ex, az_bk0, az_bk1, az_bkx, az_cat0, az_cati, az_catr, az_catl, az_vi, az_vr, az_bo0, az_bo1, az_boi, true_and, and_true, if_true, if_false, ne_eq, not_true_eq_false, not_false_eq_true, List.set_cons_zero, List.set_cons_succ, Nat.reduceAdd, Nat.reduceLeDiff, Nat.reduceEqDiff, ↓reduceIte, reduceCtorEq, Nat.reduceSub, Nat.reduceMul, Int32.reduceLT, Int32.reduceLE, Int32.reduceAdd, Int32.reduceMul, Int32.reduceSub, az_ne10, az_ne20, az_ne30, Nat.zero_le, az_q0_1, az_q0_2, az_q0_3, az_q0_4, az_q0_5, az_q0_6, az_q0_7, az_q0_8, az_q1_0, az_q1_2, az_q1_3, az_q1_4, az_q1_5, az_q1_6, az_q1_7, az_q1_8, az_q2_0, az_q2_1, az_q2_3, az_q2_4, az_q2_5, az_q2_6, az_q2_7, az_q2_8, az_q3_0, az_q3_1, az_q3_2, az_q3_4, az_q3_5, az_q3_6, az_q3_7, az_q3_8, az_q4_0, az_q4_1, az_q4_2, az_q4_3, az_q4_5, az_q4_6, az_q4_7, az_q4_8, az_q5_0, az_q5_1, az_q5_2, az_q5_3, az_q5_4, az_q5_6, az_q5_7, az_q5_8, az_q6_0, az_q6_1, az_q6_2, az_q6_3, az_q6_4, az_q6_5, az_q6_7, az_q6_8, az_q7_0, az_q7_1, az_q7_2, az_q7_3, az_q7_4, az_q7_5, az_q7_6, az_q7_8, az_q8_0, az_q8_1, az_q8_2, az_q8_3, az_q8_4, az_q8_5, az_q8_6, az_q8_7, az_z10, az_z60, az_z100, az_z1000, az_z1001, az_z10000, e3, bz_m1]
      refine ih _ _ _ _ I2 _ _ (by omega) hcl (by (repeat' split) <;> omega) (by have : cs s ≤ 6 := fb_ct_le _ 6; (repeat' split) <;> omega) hR2 hX2 ?_
      intro I3 M3 lo3 sz3 hlo3 hsz3 hR3 hX3 hM3
      refine hK I3 M3 lo3 sz3 hlo3 hsz3 hR3 hX3 fun s' q => (hM3 s' q).trans ⟨fun h => ?_, fun h => ?_⟩
      · rcases h with (h | ⟨h1, h2⟩) | ⟨h1, b', h2, h3, h4, h5⟩
        · exact Or.inl h
        · exact Or.inr ⟨h1, b, hb, hbt, hls, h2⟩
        · rw [hclr] at h3
          split at h3
          · cases h3
          · exact Or.inr ⟨h1, b', h2, h3, h4, h5⟩
      · rcases h with h | ⟨h1, b', h2, h3, h4, h5⟩
        · exact Or.inl (Or.inl h)
        · by_cases h6 : b' = b
          · subst h6
            exact Or.inl (Or.inr ⟨h1, h5⟩)
          · refine Or.inr ⟨h1, b', h2, ?_, h4, h5⟩
            rw [hclr, if_neg h6]
            exact h3
    · have f2t : (nI (32 * w + b) < nI (lsI I cp)) = True := by rw [f2]; simp; omega
      simp (maxDischargeDepth := 7) only [C10, th10, s10_0, s10_2, s10_4, s10_6, s10_9, s10_13, s10_16, s10_18, s10_20, s10_21, s10_22, s10_23, s10_24, s10_27, s10_29, s10_30, s10_32, s10_33, s10_35, s10_36, s10_38, s10_40, s10_41, s10_44, s10_45, s10_46, s10_49, s10_50, s10_51, s10_52, s10_53, s10_55, s10_58, s10_61, s10_63, s10_65, s10_66, s10_67, s10_68, s10_70, s10_73, s10_76, cc87, g36_2, A39, cc4, cc11, az_ex, az_bk0, az_bk1, az_bkx, az_cat0, az_cati, az_catr, az_catl, az_vi, az_vr, az_bo0, az_bo1, az_boi, true_and, and_true, if_true, if_false, ne_eq, not_true_eq_false, not_false_eq_true, List.set_cons_zero, List.set_cons_succ, Nat.reduceAdd, Nat.reduceLeDiff, Nat.reduceEqDiff, ↓reduceIte, reduceCtorEq, Nat.reduceSub, Nat.reduceMul, Int32.reduceLT, Int32.reduceLE, Int32.reduceAdd, Int32.reduceMul, Int32.reduceSub, az_ne10, az_ne20, az_ne30, Nat.zero_le, az_q0_1, az_q0_2, az_q0_3, az_q0_4, az_q0_5, az_q0_6, az_q0_7, az_q0_8, az_q1_0, az_q1_2, az_q1_3, az_q1_4, az_q1_5, az_q1_6, az_q1_7, az_q1_8, az_q2_0, az_q2_1, az_q2_3, az_q2_4, az_q2_5, az_q2_6, az_q2_7, az_q2_8, az_q3_0, az_q3_1, az_q3_2, az_q3_4, az_q3_5, az_q3_6, az_q3_7, az_q3_8, az_q4_0, az_q4_1, az_q4_2, az_q4_3, az_q4_5, az_q4_6, az_q4_7, az_q4_8, az_q5_0, az_q5_1, az_q5_2, az_q5_3, az_q5_4, az_q5_6, az_q5_7, az_q5_8, az_q6_0, az_q6_1, az_q6_2, az_q6_3, az_q6_4, az_q6_5, az_q6_7, az_q6_8, az_q7_0, az_q7_1, az_q7_2, az_q7_3, az_q7_4, az_q7_5, az_q7_6, az_q7_8, az_q8_0, az_q8_1, az_q8_2, az_q8_3, az_q8_4, az_q8_5, az_q8_6, az_q8_7, az_z10, az_z60, az_z100, az_z1000, az_z1001, az_z10000, bz_s0 (show m + 1 < 2 ^ 31 by omega), e1, e2, e3, e4, e5, f1, f2t, l1, e39, nI_clamp (show cp < 2 ^ 31 by omega), bz_m1]
      refine ih _ M lo sz I' _ _ (by omega) hcl hlo hsz hR hX ?_
      intro I3 M3 lo3 sz3 hlo3 hsz3 hR3 hX3 hM3
      refine hK I3 M3 lo3 sz3 hlo3 hsz3 hR3 hX3 fun s' q => (hM3 s' q).trans ⟨fun h => ?_, fun h => ?_⟩
      · rcases h with h | ⟨h1, b', h2, h3, h4, h5⟩
        · exact Or.inl h
        · rw [hclr] at h3
          split at h3
          · cases h3
          · exact Or.inr ⟨h1, b', h2, h3, h4, h5⟩
      · rcases h with h | ⟨h1, b', h2, h3, h4, h5⟩
        · exact Or.inl h
        · by_cases h6 : b' = b
          · subst h6
            exact absurd h4 hls
          · refine Or.inr ⟨h1, b', h2, ?_, h4, h5⟩
            rw [hclr, if_neg h6]
            exact h3
theorem c10 {s cp w D N lo sz : Nat} {M : Nat → Nat → Prop} (hv : az_vcp ng I) (hn : ng ≤ 6) (hc : cp < ng) (hs : s < D) (hD : D ≤ 64) (hw : w < 32) (hN : N < 2 ^ 32) (hlo : lo < 1024) (hsz : sz ≤ 6) (hR : rG I I' M D lo sz) (hX : LX M lo sz) (hK : ∀ I'' M' lo' sz', lo' < 1024 → sz' ≤ 6 → rG I I'' M' D lo' sz' → LX M' lo' sz' → (∀ s' q, M' s' q ↔ M s' q ∨ (s' = s ∧ ∃ b, b < 32 ∧ N.testBit b = true ∧ lsI I cp ≤ 32 * w + b ∧ q = apI I cp (32 * w + b))) → K (0, none, (az_S, I'', J, c, z))) : az_C xs (d + 3) 10 [.ref 36, .int (nI s), .int (nI cp), .int (nI w), .int (nI N)] (az_S, I', J, c, z) K := by
  simp (maxDischargeDepth := 7) only [C10, th10, s10_0, s10_2, s10_4, s10_6, s10_9, s10_13, s10_16, s10_18, s10_20, s10_21, s10_22, s10_23, s10_24, s10_27, s10_29, s10_30, s10_32, s10_33, s10_35, s10_36, s10_38, s10_40, s10_41, s10_44, s10_45, s10_46, s10_49, s10_50, s10_51, s10_52, s10_53, s10_55, s10_58, s10_61, s10_63, s10_65, s10_66, s10_67, s10_68, s10_70, s10_73, s10_76, cc87, g36_2, A39, cc4, cc11, az_ex, az_bk0, az_bk1, az_bkx, az_cat0, az_cati, az_catr, az_catl, az_vi, az_vr, az_bo0, az_bo1, az_boi, true_and, and_true, if_true, if_false, ne_eq, not_true_eq_false, not_false_eq_true, List.set_cons_zero, List.set_cons_succ, Nat.reduceAdd, Nat.reduceLeDiff, Nat.reduceEqDiff, ↓reduceIte, reduceCtorEq, Nat.reduceSub, Nat.reduceMul, Int32.reduceLT, Int32.reduceLE, Int32.reduceAdd, Int32.reduceMul, Int32.reduceSub, az_ne10, az_ne20, az_ne30, Nat.zero_le, c142 (d := d + 1) hN]
  exact c10l hv hn hc hs hD hw _ N M lo sz I' _ _ rfl hN hlo hsz hR hX hK
/-- a campaign of a set comes last -/
theorem c9w {s cp D lo sz : Nat} {M : Nat → Nat → Prop} (hv : az_vcp ng I) (hn : ng ≤ 6) (hc : cp < ng) (hs : s < D) (hD : D ≤ 64) (hbit : s.testBit cp = true) (hlo : lo < 1024) (hsz : sz ≤ 6) (hR : rG I I' M D lo sz) (hX : LX M lo sz) (hK : ∀ I'' M' lo' sz', lo' < 1024 → sz' ≤ 6 → rG I I'' M' D lo' sz' → LX M' lo' sz' → (∀ s' q, M' s' q ↔ M s' q ∨ (s' = s ∧ ∃ k, k < 1024 ∧ M (sbb false s cp) k ∧ lsI I cp ≤ k ∧ q = apI I cp k)) → ∀ o3 o4, az_W xs (d + 3) 9 72 [some (.ref 36), some (.int (nI s)), some (.int (nI cp)), o3, o4] [] (az_S, I'', J, c, z) K) : az_W xs (d + 3) 9 30 [some (.ref 36), some (.int (nI s)), some (.int (nI cp)), some (.int (nI (sbb false s cp))), some (.int 0)] [] (az_S, I', J, c, z) K := by
  have hsb := sbb_lt s (by omega) cp (by omega) hbit
  have f5 : az_in (nI (sbb false s cp)) 64 = true := by rw [az_in_nI (by omega)]; simp; omega
  have n32 : ((32 : Int32)) = nI 32 := rfl
  have key := az_loopB (α := Unit) (n := 32) (h := fun _ _ => ()) (Inv := fun _ _ => True) (W := fun j _ => ∀ I' M' lo' sz', lo' < 1024 → sz' ≤ 6 → rG I I' M' D lo' sz' → LX M' lo' sz' → (∀ s' q, M' s' q ↔ M s' q ∨ (s' = s ∧ ∃ k, k < 32 * j ∧ M (sbb false s cp) k ∧ lsI I cp ≤ k ∧ q = apI I cp k)) → az_W xs (d + 3) 9 30 [some (.ref 36), some (.int (nI s)), some (.int (nI cp)), some (.int (nI (sbb false s cp))), some (.int (nI j))] [] (az_S, I', J, c, z) K) (fun _ _ _ _ => trivial) ?_ 32 0 () (by omega) trivial ?_
  · refine key I' M lo sz hlo hsz hR hX fun s' q => ⟨Or.inl, fun h => ?_⟩
    rcases h with h | ⟨-, k, h, -⟩
    · exact h
    · omega
  · intro j _ hj _ hw I' M' lo' sz' hlo' hsz' hR hX hM
    have f1 : az_in (nI j) 32 = true := by rw [az_in_nI (by omega)]; simp; omega
    have f2 : ((32 : Int32) ≤ nI j) = False := by rw [n32, bz_le (by omega) (by omega)]; simp; omega
    obtain ⟨N, hN, hNw, hbits⟩ := hR.1 (sbb false s cp) (by omega) j hj
    have hrow : ∀ k, M' (sbb false s cp) k ↔ M (sbb false s cp) k := fun k => (hM _ _).trans ⟨fun h => by
      rcases h with h | h
      · exact h
      · omega, Or.inl⟩
    refine s9_30.mpr ?_
    by_cases hN0 : N = 0
    · have f9 : (nI N = 0) = True := by rw [hN0]; decide
      simp (maxDischargeDepth := 7) only [C9, th9, s9_0, s9_1, s9_2, s9_3, s9_4, s9_7, s9_10, s9_11, s9_12, s9_13, s9_14, s9_15, s9_16, s9_19, s9_20, s9_21, s9_22, s9_23, s9_24, s9_25, s9_26, s9_27, s9_28, s9_32, s9_34, s9_37, s9_38, s9_41, s9_42, s9_43, s9_45, s9_46, s9_49, s9_50, s9_51, s9_52, s9_54, s9_55, s9_58, s9_59, s9_60, s9_62, s9_63, s9_66, s9_69, s9_75, s9_78, g36_7, g36_4, R41, AR41, cc10, az_ex, az_bk0, az_bk1, az_bkx, az_cat0, az_cati, az_catr, az_catl, az_vi, az_vr, az_bo0, az_bo1, az_boi, true_and, and_true, if_true, if_false, ne_eq, not_true_eq_false, not_false_eq_true, List.set_cons_zero, List.set_cons_succ, Nat.reduceAdd, Nat.reduceLeDiff, Nat.reduceEqDiff, ↓reduceIte, reduceCtorEq, Nat.reduceSub, Nat.reduceMul, Int32.reduceLT, Int32.reduceLE, Int32.reduceAdd, Int32.reduceMul, Int32.reduceSub, az_ne10, az_ne20, az_ne30, Nat.zero_le, az_q0_1, az_q0_2, az_q0_3, az_q0_4, az_q0_5, az_q0_6, az_q0_7, az_q0_8, az_q1_0, az_q1_2, az_q1_3, az_q1_4, az_q1_5, az_q1_6, az_q1_7, az_q1_8, az_q2_0, az_q2_1, az_q2_3, az_q2_4, az_q2_5, az_q2_6, az_q2_7, az_q2_8, az_q3_0, az_q3_1, az_q3_2, az_q3_4, az_q3_5, az_q3_6, az_q3_7, az_q3_8, az_q4_0, az_q4_1, az_q4_2, az_q4_3, az_q4_5, az_q4_6, az_q4_7, az_q4_8, az_q5_0, az_q5_1, az_q5_2, az_q5_3, az_q5_4, az_q5_6, az_q5_7, az_q5_8, az_q6_0, az_q6_1, az_q6_2, az_q6_3, az_q6_4, az_q6_5, az_q6_7, az_q6_8, az_q7_0, az_q7_1, az_q7_2, az_q7_3, az_q7_4, az_q7_5, az_q7_6, az_q7_8, az_q8_0, az_q8_1, az_q8_2, az_q8_3, az_q8_4, az_q8_5, az_q8_6, az_q8_7, az_z10, az_z60, az_z100, az_z1000, az_z1001, az_z10000, R41, AR41 (show sbb false s cp < 64 by omega), f1, f2, f5, f9, hNw, nI_1, nI_clamp (show j < 2 ^ 31 by omega), nI_clamp (show sbb false s cp < 2 ^ 31 by omega)]
      refine hw I' M' lo' sz' hlo' hsz' hR hX fun s' q => (hM s' q).trans ⟨fun h => ?_, fun h => ?_⟩
      · rcases h with h | ⟨h1, k, h2, h3⟩
        · exact Or.inl h
        · exact Or.inr ⟨h1, k, by omega, h3⟩
      · rcases h with h | ⟨h1, k, h2, h3, h4, h5⟩
        · exact Or.inl h
        · refine Or.inr ⟨h1, k, ?_, h3, h4, h5⟩
          by_cases h6 : k < 32 * j
          · exact h6
          · have e : 32 * j + (k - 32 * j) = k := by omega
            have h7 := (hbits (k - 32 * j) (by omega)).mpr ((hrow _).mpr (by rw [e]; exact h3))
            rw [hN0, Nat.zero_testBit] at h7
            cases h7
    have f9 : (nI N = 0) = False := by
      simp only [eq_iff_iff, iff_false]
      exact fun h => hN0 (bw_inj hN (by decide) h)
    simp (maxDischargeDepth := 7) only [C9, th9, s9_0, s9_1, s9_2, s9_3, s9_4, s9_7, s9_10, s9_11, s9_12, s9_13, s9_14, s9_15, s9_16, s9_19, s9_20, s9_21, s9_22, s9_23, s9_24, s9_25, s9_26, s9_27, s9_28, s9_32, s9_34, s9_37, s9_38, s9_41, s9_42, s9_43, s9_45, s9_46, s9_49, s9_50, s9_51, s9_52, s9_54, s9_55, s9_58, s9_59, s9_60, s9_62, s9_63, s9_66, s9_69, s9_75, s9_78, g36_7, g36_4, R41, AR41, cc10, az_ex, az_bk0, az_bk1, az_bkx, az_cat0, az_cati, az_catr, az_catl, az_vi, az_vr, az_bo0, az_bo1, az_boi, true_and, and_true, if_true, if_false, ne_eq, not_true_eq_false, not_false_eq_true, List.set_cons_zero, List.set_cons_succ, Nat.reduceAdd, Nat.reduceLeDiff, Nat.reduceEqDiff, ↓reduceIte, reduceCtorEq, Nat.reduceSub, Nat.reduceMul, Int32.reduceLT, Int32.reduceLE, Int32.reduceAdd, Int32.reduceMul, Int32.reduceSub, az_ne10, az_ne20, az_ne30, Nat.zero_le, az_q0_1, az_q0_2, az_q0_3, az_q0_4, az_q0_5, az_q0_6, az_q0_7, az_q0_8, az_q1_0, az_q1_2, az_q1_3, az_q1_4, az_q1_5, az_q1_6, az_q1_7, az_q1_8, az_q2_0, az_q2_1, az_q2_3, az_q2_4, az_q2_5, az_q2_6, az_q2_7, az_q2_8, az_q3_0, az_q3_1, az_q3_2, az_q3_4, az_q3_5, az_q3_6, az_q3_7, az_q3_8, az_q4_0, az_q4_1, az_q4_2, az_q4_3, az_q4_5, az_q4_6, az_q4_7, az_q4_8, az_q5_0, az_q5_1, az_q5_2, az_q5_3, az_q5_4, az_q5_6, az_q5_7, az_q5_8, az_q6_0, az_q6_1, az_q6_2, az_q6_3, az_q6_4, az_q6_5, az_q6_7, az_q6_8, az_q7_0, az_q7_1, az_q7_2, az_q7_3, az_q7_4, az_q7_5, az_q7_6, az_q7_8, az_q8_0, az_q8_1, az_q8_2, az_q8_3, az_q8_4, az_q8_5, az_q8_6, az_q8_7, az_z10, az_z60, az_z100, az_z1000, az_z1001, az_z10000, R41, AR41 (show sbb false s cp < 64 by omega), f1, f2, f5, f9, hNw, nI_clamp (show j < 2 ^ 31 by omega), nI_clamp (show sbb false s cp < 2 ^ 31 by omega)]
    refine c10 hv hn hc hs hD hj hN hlo' hsz' hR hX ?_
    intro I3 M3 lo3 sz3 hlo3 hsz3 hR3 hX3 hM3
    simp (maxDischargeDepth := 7) only [C9, th9, s9_0, s9_1, s9_2, s9_3, s9_4, s9_7, s9_10, s9_11, s9_12, s9_13, s9_14, s9_15, s9_16, s9_19, s9_20, s9_21, s9_22, s9_23, s9_24, s9_25, s9_26, s9_27, s9_28, s9_32, s9_34, s9_37, s9_38, s9_41, s9_42, s9_43, s9_45, s9_46, s9_49, s9_50, s9_51, s9_52, s9_54, s9_55, s9_58, s9_59, s9_60, s9_62, s9_63, s9_66, s9_69, s9_75, s9_78, g36_7, g36_4, R41, AR41, cc10, az_ex, az_bk0, az_bk1, az_bkx, az_cat0, az_cati, az_catr, az_catl, az_vi, az_vr, az_bo0, az_bo1, az_boi, true_and, and_true, if_true, if_false, ne_eq, not_true_eq_false, not_false_eq_true, List.set_cons_zero, List.set_cons_succ, Nat.reduceAdd, Nat.reduceLeDiff, Nat.reduceEqDiff, ↓reduceIte, reduceCtorEq, Nat.reduceSub, Nat.reduceMul, Int32.reduceLT, Int32.reduceLE, Int32.reduceAdd, Int32.reduceMul, Int32.reduceSub, az_ne10, az_ne20, az_ne30, Nat.zero_le, az_q0_1, az_q0_2, az_q0_3, az_q0_4, az_q0_5, az_q0_6, az_q0_7, az_q0_8, az_q1_0, az_q1_2, az_q1_3, az_q1_4, az_q1_5, az_q1_6, az_q1_7, az_q1_8, az_q2_0, az_q2_1, az_q2_3, az_q2_4, az_q2_5, az_q2_6, az_q2_7, az_q2_8, az_q3_0, az_q3_1, az_q3_2, az_q3_4, az_q3_5, az_q3_6, az_q3_7, az_q3_8, az_q4_0, az_q4_1, az_q4_2, az_q4_3, az_q4_5, az_q4_6, az_q4_7, az_q4_8, az_q5_0, az_q5_1, az_q5_2, az_q5_3, az_q5_4, az_q5_6, az_q5_7, az_q5_8, az_q6_0, az_q6_1, az_q6_2, az_q6_3, az_q6_4, az_q6_5, az_q6_7, az_q6_8, az_q7_0, az_q7_1, az_q7_2, az_q7_3, az_q7_4, az_q7_5, az_q7_6, az_q7_8, az_q8_0, az_q8_1, az_q8_2, az_q8_3, az_q8_4, az_q8_5, az_q8_6, az_q8_7, az_z10, az_z60, az_z100, az_z1000, az_z1001, az_z10000, nI_1]
    refine hw I3 M3 lo3 sz3 hlo3 hsz3 hR3 hX3 fun s' q => (hM3 s' q).trans ⟨fun h => ?_, fun h => ?_⟩
    · rcases h with h | ⟨h1, b, h2, h3, h4, h5⟩
      · rcases (hM s' q).mp h with h | ⟨h1, k, h2, h3⟩
        · exact Or.inl h
        · exact Or.inr ⟨h1, k, by omega, h3⟩
      · exact Or.inr ⟨h1, 32 * j + b, by omega, (hrow _).mp ((hbits b h2).mp h3), h4, h5⟩
    · rcases h with h | ⟨h1, k, h2, h3, h4, h5⟩
      · exact Or.inl ((hM s' q).mpr (Or.inl h))
      · by_cases h6 : k < 32 * j
        · exact Or.inl ((hM s' q).mpr (Or.inr ⟨h1, k, h6, h3, h4, h5⟩))
        · have e : 32 * j + (k - 32 * j) = k := by omega
          refine Or.inr ⟨h1, k - 32 * j, by omega, (hbits _ (by omega)).mpr ((hrow _).mpr ?_), by rw [e]; exact h4, by rw [e]; exact h5⟩
          rw [e]; exact h3
  · intro I' M' lo' sz' hlo' hsz' hR hX hM
    have f3 : ((32 : Int32) ≤ nI 32) = True := by decide
    refine s9_30.mpr ?_
    simp (maxDischargeDepth := 7) only [C9, th9, s9_0, s9_1, s9_2, s9_3, s9_4, s9_7, s9_10, s9_11, s9_12, s9_13, s9_14, s9_15, s9_16, s9_19, s9_20, s9_21, s9_22, s9_23, s9_24, s9_25, s9_26, s9_27, s9_28, s9_32, s9_34, s9_37, s9_38, s9_41, s9_42, s9_43, s9_45, s9_46, s9_49, s9_50, s9_51, s9_52, s9_54, s9_55, s9_58, s9_59, s9_60, s9_62, s9_63, s9_66, s9_69, s9_75, s9_78, g36_7, g36_4, R41, AR41, cc10, az_ex, az_bk0, az_bk1, az_bkx, az_cat0, az_cati, az_catr, az_catl, az_vi, az_vr, az_bo0, az_bo1, az_boi, true_and, and_true, if_true, if_false, ne_eq, not_true_eq_false, not_false_eq_true, List.set_cons_zero, List.set_cons_succ, Nat.reduceAdd, Nat.reduceLeDiff, Nat.reduceEqDiff, ↓reduceIte, reduceCtorEq, Nat.reduceSub, Nat.reduceMul, Int32.reduceLT, Int32.reduceLE, Int32.reduceAdd, Int32.reduceMul, Int32.reduceSub, az_ne10, az_ne20, az_ne30, Nat.zero_le, az_q0_1, az_q0_2, az_q0_3, az_q0_4, az_q0_5, az_q0_6, az_q0_7, az_q0_8, az_q1_0, az_q1_2, az_q1_3, az_q1_4, az_q1_5, az_q1_6, az_q1_7, az_q1_8, az_q2_0, az_q2_1, az_q2_3, az_q2_4, az_q2_5, az_q2_6, az_q2_7, az_q2_8, az_q3_0, az_q3_1, az_q3_2, az_q3_4, az_q3_5, az_q3_6, az_q3_7, az_q3_8, az_q4_0, az_q4_1, az_q4_2, az_q4_3, az_q4_5, az_q4_6, az_q4_7, az_q4_8, az_q5_0, az_q5_1, az_q5_2, az_q5_3, az_q5_4, az_q5_6, az_q5_7, az_q5_8, az_q6_0, az_q6_1, az_q6_2, az_q6_3, az_q6_4, az_q6_5, az_q6_7, az_q6_8, az_q7_0, az_q7_1, az_q7_2, az_q7_3, az_q7_4, az_q7_5, az_q7_6, az_q7_8, az_q8_0, az_q8_1, az_q8_2, az_q8_3, az_q8_4, az_q8_5, az_q8_6, az_q8_7, az_z10, az_z60, az_z100, az_z1000, az_z1001, az_z10000, f3]
    exact hK I' M' lo' sz' hlo' hsz' hR hX (fun s' q => (hM s' q).trans (by simp)) _ _
theorem c9 {s D lo sz : Nat} {M : Nat → Nat → Prop} (hv : az_vcp ng I) (hn : ng ≤ 6) (h7 : I 36 7 = nI ng) (hs : s < D) (hD : D ≤ 64) (hlo : lo < 1024) (hsz : sz ≤ 6) (hR : rG I I' M D lo sz) (hX : LX M lo sz) (hK : ∀ I'' M' lo' sz', lo' < 1024 → sz' ≤ 6 → rG I I'' M' D lo' sz' → LX M' lo' sz' → (∀ s' q, M' s' q ↔ M s' q ∨ (s' = s ∧ ∃ cp, cp < ng ∧ s.testBit cp = true ∧ ∃ k, k < 1024 ∧ M (sbb false s cp) k ∧ lsI I cp ≤ k ∧ q = apI I cp k)) → K (0, none, (az_S, I'', J, c, z))) : az_C xs (d + 4) 9 [.ref 36, .int (nI s)] (az_S, I', J, c, z) K := by
  have key := az_loopB (α := Unit) (n := ng) (h := fun _ _ => ()) (Inv := fun _ _ => True) (W := fun j _ => ∀ I' M' lo' sz' o3 o4, lo' < 1024 → sz' ≤ 6 → rG I I' M' D lo' sz' → LX M' lo' sz' → (∀ s' q, M' s' q ↔ M s' q ∨ (s' = s ∧ ∃ cp, cp < j ∧ s.testBit cp = true ∧ ∃ k, k < 1024 ∧ M (sbb false s cp) k ∧ lsI I cp ≤ k ∧ q = apI I cp k)) → az_W xs (d + 3) 9 2 [some (.ref 36), some (.int (nI s)), some (.int (nI j)), o3, o4] [] (az_S, I', J, c, z) K) (fun _ _ _ _ => trivial) ?_ ng 0 () (by omega) trivial ?_
  · simp (maxDischargeDepth := 7) only [C9, th9, s9_0, s9_1, s9_3, s9_4, s9_7, s9_10, s9_11, s9_12, s9_13, s9_14, s9_15, s9_16, s9_19, s9_20, s9_21, s9_22, s9_23, s9_24, s9_25, s9_26, s9_27, s9_28, s9_30, s9_32, s9_34, s9_37, s9_38, s9_41, s9_42, s9_43, s9_45, s9_46, s9_49, s9_50, s9_51, s9_52, s9_54, s9_55, s9_58, s9_59, s9_60, s9_62, s9_63, s9_66, s9_69, s9_72, s9_75, s9_78, g36_7, g36_4, R41, AR41, cc10, az_ex, az_bk0, az_bk1, az_bkx, az_cat0, az_cati, az_catr, az_catl, az_vi, az_vr, az_bo0, az_bo1, az_boi, true_and, and_true, if_true, if_false, ne_eq, not_true_eq_false, not_false_eq_true, List.set_cons_zero, List.set_cons_succ, Nat.reduceAdd, Nat.reduceLeDiff, Nat.reduceEqDiff, ↓reduceIte, reduceCtorEq, Nat.reduceSub, Nat.reduceMul, Int32.reduceLT, Int32.reduceLE, Int32.reduceAdd, Int32.reduceMul, Int32.reduceSub, az_ne10, az_ne20, az_ne30, Nat.zero_le]
    refine key I' M lo sz none none hlo hsz hR hX fun s' q => ⟨Or.inl, fun h => ?_⟩
    rcases h with h | ⟨-, k, h, -⟩
    · exact h
    · omega
  · intro j _ hj _ hw I' M' lo' sz' o3 o4 hlo' hsz' hR hX hM
    have g7 : I' 36 7 = nI ng := by rw [hR.2.2.1 7 (by decide) (by decide)]; exact h7
    have f2 : (nI ng ≤ nI j) = False := by rw [bz_le (by omega) (by omega)]; simp; omega
    have f3 := bq3 (show s < 64 by omega) (show j < 6 by omega)
    have f4 := bq1 (show s < 64 by omega) (show j < 6 by omega)
    refine s9_2.mpr ?_
    cases hbit : s.testBit j with
    | false =>
      rw [hbit] at f4
      simp only [Bool.false_eq_true, if_false] at f4
      simp (maxDischargeDepth := 7) only [C9, th9, s9_0, s9_1, s9_3, s9_4, s9_7, s9_10, s9_11, s9_12, s9_13, s9_14, s9_15, s9_16, s9_19, s9_20, s9_21, s9_22, s9_23, s9_24, s9_25, s9_26, s9_27, s9_28, s9_32, s9_34, s9_37, s9_38, s9_41, s9_42, s9_43, s9_45, s9_46, s9_49, s9_50, s9_51, s9_52, s9_54, s9_55, s9_58, s9_59, s9_60, s9_62, s9_63, s9_66, s9_69, s9_72, s9_75, s9_78, g36_7, g36_4, R41, AR41, cc10, az_ex, az_bk0, az_bk1, az_bkx, az_cat0, az_cati, az_catr, az_catl, az_vi, az_vr, az_bo0, az_bo1, az_boi, true_and, and_true, if_true, if_false, ne_eq, not_true_eq_false, not_false_eq_true, List.set_cons_zero, List.set_cons_succ, Nat.reduceAdd, Nat.reduceLeDiff, Nat.reduceEqDiff, ↓reduceIte, reduceCtorEq, Nat.reduceSub, Nat.reduceMul, Int32.reduceLT, Int32.reduceLE, Int32.reduceAdd, Int32.reduceMul, Int32.reduceSub, az_ne10, az_ne20, az_ne30, Nat.zero_le, az_q0_1, az_q0_2, az_q0_3, az_q0_4, az_q0_5, az_q0_6, az_q0_7, az_q0_8, az_q1_0, az_q1_2, az_q1_3, az_q1_4, az_q1_5, az_q1_6, az_q1_7, az_q1_8, az_q2_0, az_q2_1, az_q2_3, az_q2_4, az_q2_5, az_q2_6, az_q2_7, az_q2_8, az_q3_0, az_q3_1, az_q3_2, az_q3_4, az_q3_5, az_q3_6, az_q3_7, az_q3_8, az_q4_0, az_q4_1, az_q4_2, az_q4_3, az_q4_5, az_q4_6, az_q4_7, az_q4_8, az_q5_0, az_q5_1, az_q5_2, az_q5_3, az_q5_4, az_q5_6, az_q5_7, az_q5_8, az_q6_0, az_q6_1, az_q6_2, az_q6_3, az_q6_4, az_q6_5, az_q6_7, az_q6_8, az_q7_0, az_q7_1, az_q7_2, az_q7_3, az_q7_4, az_q7_5, az_q7_6, az_q7_8, az_q8_0, az_q8_1, az_q8_2, az_q8_3, az_q8_4, az_q8_5, az_q8_6, az_q8_7, az_z10, az_z60, az_z100, az_z1000, az_z1001, az_z10000, g7, f2, f4, nI_1]
      refine hw I' M' lo' sz' _ _ hlo' hsz' hR hX fun s' q => (hM s' q).trans ⟨fun h => ?_, fun h => ?_⟩
      · rcases h with h | ⟨h1, cp, h2, h3⟩
        · exact Or.inl h
        · exact Or.inr ⟨h1, cp, by omega, h3⟩
      · rcases h with h | ⟨h1, cp, h2, h3, h4⟩
        · exact Or.inl h
        · refine Or.inr ⟨h1, cp, ?_, h3, h4⟩
          by_cases h5 : cp = j
          · rw [h5, hbit] at h3; cases h3
          · omega
    | true =>
      rw [hbit] at f4
      simp only [if_true] at f4
      have hsb := sbb_lt s (by omega) j (by omega) hbit
      simp (maxDischargeDepth := 7) only [C9, th9, s9_0, s9_1, s9_3, s9_4, s9_7, s9_10, s9_11, s9_12, s9_13, s9_14, s9_15, s9_16, s9_19, s9_20, s9_21, s9_22, s9_23, s9_24, s9_25, s9_26, s9_27, s9_28, s9_32, s9_34, s9_37, s9_38, s9_41, s9_42, s9_43, s9_45, s9_46, s9_49, s9_50, s9_51, s9_52, s9_54, s9_55, s9_58, s9_59, s9_60, s9_62, s9_63, s9_66, s9_69, s9_72, s9_75, s9_78, g36_7, g36_4, R41, AR41, cc10, az_ex, az_bk0, az_bk1, az_bkx, az_cat0, az_cati, az_catr, az_catl, az_vi, az_vr, az_bo0, az_bo1, az_boi, true_and, and_true, if_true, if_false, ne_eq, not_true_eq_false, not_false_eq_true, List.set_cons_zero, List.set_cons_succ, Nat.reduceAdd, Nat.reduceLeDiff, Nat.reduceEqDiff, ↓reduceIte, reduceCtorEq, Nat.reduceSub, Nat.reduceMul, Int32.reduceLT, Int32.reduceLE, Int32.reduceAdd, Int32.reduceMul, Int32.reduceSub, az_ne10, az_ne20, az_ne30, Nat.zero_le, az_q0_1, az_q0_2, az_q0_3, az_q0_4, az_q0_5, az_q0_6, az_q0_7, az_q0_8, az_q1_0, az_q1_2, az_q1_3, az_q1_4, az_q1_5, az_q1_6, az_q1_7, az_q1_8, az_q2_0, az_q2_1, az_q2_3, az_q2_4, az_q2_5, az_q2_6, az_q2_7, az_q2_8, az_q3_0, az_q3_1, az_q3_2, az_q3_4, az_q3_5, az_q3_6, az_q3_7, az_q3_8, az_q4_0, az_q4_1, az_q4_2, az_q4_3, az_q4_5, az_q4_6, az_q4_7, az_q4_8, az_q5_0, az_q5_1, az_q5_2, az_q5_3, az_q5_4, az_q5_6, az_q5_7, az_q5_8, az_q6_0, az_q6_1, az_q6_2, az_q6_3, az_q6_4, az_q6_5, az_q6_7, az_q6_8, az_q7_0, az_q7_1, az_q7_2, az_q7_3, az_q7_4, az_q7_5, az_q7_6, az_q7_8, az_q8_0, az_q8_1, az_q8_2, az_q8_3, az_q8_4, az_q8_5, az_q8_6, az_q8_7, az_z10, az_z60, az_z100, az_z1000, az_z1001, az_z10000, g7, f2, f3, f4]
      refine c9w hv hn hj hs hD hbit hlo' hsz' hR hX ?_
      intro I3 M3 lo3 sz3 hlo3 hsz3 hR3 hX3 hM3 o3' o4'
      simp (maxDischargeDepth := 7) only [C9, th9, s9_0, s9_1, s9_3, s9_4, s9_7, s9_10, s9_11, s9_12, s9_13, s9_14, s9_15, s9_16, s9_19, s9_20, s9_21, s9_22, s9_23, s9_24, s9_25, s9_26, s9_27, s9_28, s9_32, s9_34, s9_37, s9_38, s9_41, s9_42, s9_43, s9_45, s9_46, s9_49, s9_50, s9_51, s9_52, s9_54, s9_55, s9_58, s9_59, s9_60, s9_62, s9_63, s9_66, s9_69, s9_72, s9_75, s9_78, g36_7, g36_4, R41, AR41, cc10, az_ex, az_bk0, az_bk1, az_bkx, az_cat0, az_cati, az_catr, az_catl, az_vi, az_vr, az_bo0, az_bo1, az_boi, true_and, and_true, if_true, if_false, ne_eq, not_true_eq_false, not_false_eq_true, List.set_cons_zero, List.set_cons_succ, Nat.reduceAdd, Nat.reduceLeDiff, Nat.reduceEqDiff, ↓reduceIte, reduceCtorEq, Nat.reduceSub, Nat.reduceMul, Int32.reduceLT, Int32.reduceLE, Int32.reduceAdd, Int32.reduceMul, Int32.reduceSub, az_ne10, az_ne20, az_ne30, Nat.zero_le, az_q0_1, az_q0_2, az_q0_3, az_q0_4, az_q0_5, az_q0_6, az_q0_7, az_q0_8, az_q1_0, az_q1_2, az_q1_3, az_q1_4, az_q1_5, az_q1_6, az_q1_7, az_q1_8, az_q2_0, az_q2_1, az_q2_3, az_q2_4, az_q2_5, az_q2_6, az_q2_7, az_q2_8, az_q3_0, az_q3_1, az_q3_2, az_q3_4, az_q3_5, az_q3_6, az_q3_7, az_q3_8, az_q4_0, az_q4_1, az_q4_2, az_q4_3, az_q4_5, az_q4_6, az_q4_7, az_q4_8, az_q5_0, az_q5_1, az_q5_2, az_q5_3, az_q5_4, az_q5_6, az_q5_7, az_q5_8, az_q6_0, az_q6_1, az_q6_2, az_q6_3, az_q6_4, az_q6_5, az_q6_7, az_q6_8, az_q7_0, az_q7_1, az_q7_2, az_q7_3, az_q7_4, az_q7_5, az_q7_6, az_q7_8, az_q8_0, az_q8_1, az_q8_2, az_q8_3, az_q8_4, az_q8_5, az_q8_6, az_q8_7, az_z10, az_z60, az_z100, az_z1000, az_z1001, az_z10000, nI_1]
      refine hw I3 M3 lo3 sz3 _ _ hlo3 hsz3 hR3 hX3 fun s' q => (hM3 s' q).trans ⟨fun h => ?_, fun h => ?_⟩
      · rcases h with h | ⟨h1, k, h2, h3, h4⟩
        · rcases (hM s' q).mp h with h | ⟨h1, cp, h2, h3⟩
          · exact Or.inl h
          · exact Or.inr ⟨h1, cp, by omega, h3⟩
        · refine Or.inr ⟨h1, j, by omega, hbit, k, h2, ?_, h4⟩
          rcases (hM _ _).mp h3 with h5 | h5
          · exact h5
          · omega
      · rcases h with h | ⟨h1, cp, h2, h3, k, h4, h5, h6⟩
        · exact Or.inl ((hM s' q).mpr (Or.inl h))
        · by_cases h7 : cp = j
          · subst h7
            exact Or.inr ⟨h1, k, h4, (hM _ _).mpr (Or.inl h5), h6⟩
          · exact Or.inl ((hM s' q).mpr (Or.inr ⟨h1, cp, by omega, h3, k, h4, h5, h6⟩))
  · intro I' M' lo' sz' o3 o4 hlo' hsz' hR hX hM
    have g7 : I' 36 7 = nI ng := by rw [hR.2.2.1 7 (by decide) (by decide)]; exact h7
    have f3 : (nI ng ≤ nI ng) = True := by rw [bz_le (by omega) (by omega)]; simp
    refine s9_2.mpr ?_
    simp (maxDischargeDepth := 7) only [C9, th9, s9_0, s9_1, s9_3, s9_4, s9_7, s9_10, s9_11, s9_12, s9_13, s9_14, s9_15, s9_16, s9_19, s9_20, s9_21, s9_22, s9_23, s9_24, s9_25, s9_26, s9_27, s9_28, s9_32, s9_34, s9_37, s9_38, s9_41, s9_42, s9_43, s9_45, s9_46, s9_49, s9_50, s9_51, s9_52, s9_54, s9_55, s9_58, s9_59, s9_60, s9_62, s9_63, s9_66, s9_69, s9_72, s9_75, s9_78, g36_7, g36_4, R41, AR41, cc10, az_ex, az_bk0, az_bk1, az_bkx, az_cat0, az_cati, az_catr, az_catl, az_vi, az_vr, az_bo0, az_bo1, az_boi, true_and, and_true, if_true, if_false, ne_eq, not_true_eq_false, not_false_eq_true, List.set_cons_zero, List.set_cons_succ, Nat.reduceAdd, Nat.reduceLeDiff, Nat.reduceEqDiff, ↓reduceIte, reduceCtorEq, Nat.reduceSub, Nat.reduceMul, Int32.reduceLT, Int32.reduceLE, Int32.reduceAdd, Int32.reduceMul, Int32.reduceSub, az_ne10, az_ne20, az_ne30, Nat.zero_le, az_q0_1, az_q0_2, az_q0_3, az_q0_4, az_q0_5, az_q0_6, az_q0_7, az_q0_8, az_q1_0, az_q1_2, az_q1_3, az_q1_4, az_q1_5, az_q1_6, az_q1_7, az_q1_8, az_q2_0, az_q2_1, az_q2_3, az_q2_4, az_q2_5, az_q2_6, az_q2_7, az_q2_8, az_q3_0, az_q3_1, az_q3_2, az_q3_4, az_q3_5, az_q3_6, az_q3_7, az_q3_8, az_q4_0, az_q4_1, az_q4_2, az_q4_3, az_q4_5, az_q4_6, az_q4_7, az_q4_8, az_q5_0, az_q5_1, az_q5_2, az_q5_3, az_q5_4, az_q5_6, az_q5_7, az_q5_8, az_q6_0, az_q6_1, az_q6_2, az_q6_3, az_q6_4, az_q6_5, az_q6_7, az_q6_8, az_q7_0, az_q7_1, az_q7_2, az_q7_3, az_q7_4, az_q7_5, az_q7_6, az_q7_8, az_q8_0, az_q8_1, az_q8_2, az_q8_3, az_q8_4, az_q8_5, az_q8_6, az_q8_7, az_z10, az_z60, az_z100, az_z1000, az_z1001, az_z10000, g7, f3]
    exact hK I' M' lo' sz' hlo' hsz' hR hX hM
end
