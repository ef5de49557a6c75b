/-! all sets, by the class -/
theorem low_bit {N : Nat} (h0 : N ≠ 0) (hN : N < 2 ^ 32) : ∃ b, b < 32 ∧ N.testBit b = true ∧ N &&& (2 ^ 32 - N) = 2 ^ b ∧ ∀ i, (N &&& (N - 1)).testBit i = (if i = b then false else N.testBit i) := by
  obtain ⟨i0, hi0⟩ := Nat.exists_testBit_of_ne_zero h0
  have hi32 : i0 < 32 := by
    apply Nat.lt_of_not_le
    intro hle
    rw [Nat.testBit_lt_two_pow (Nat.lt_of_lt_of_le hN (Nat.pow_le_pow_right (by decide) hle))] at hi0
    cases hi0
  obtain ⟨b, hb, hbt, hbl⟩ := fb_first (p := fun i => N.testBit i = true) (n := 32) ⟨i0, hi32, hi0⟩
  have hm : N % 2 ^ (b + 1) = 2 ^ b := by
    apply Nat.eq_of_testBit_eq
    intro i
    rw [Nat.testBit_mod_two_pow, Nat.testBit_two_pow]
    by_cases h1 : i < b
    · rw [Bool.eq_false_iff.mpr (hbl i h1)]
      simp; omega
    · by_cases h2 : i = b
      · subst h2; simp [hbt]
      · have h3 : ¬ i < b + 1 := by omega
        have h4 : ¬ b = i := by omega
        simp [h3, h4]
  have hq : N = 2 ^ (b + 1) * (N / 2 ^ (b + 1)) + 2 ^ b := by
    have := Nat.div_add_mod N (2 ^ (b + 1))
    rw [hm] at this
    exact this.symm
  generalize N / 2 ^ (b + 1) = q at hq
  have hp : 0 < 2 ^ b := Nat.two_pow_pos b
  have hlt : 2 ^ b < 2 ^ (b + 1) := Nat.pow_lt_pow_right (by decide) (by omega)
  have hq1 : N - 1 = 2 ^ (b + 1) * q + (2 ^ b - 1) := by omega
  have t1 : ∀ i, N.testBit i = if i < b + 1 then decide (b = i) else q.testBit (i - (b + 1)) := fun i => by
    rw [hq, Nat.testBit_two_pow_mul_add _ hlt, Nat.testBit_two_pow]
  have t2 : ∀ i, (N - 1).testBit i = if i < b + 1 then decide (i < b) else q.testBit (i - (b + 1)) := fun i => by
    rw [hq1, Nat.testBit_two_pow_mul_add _ (by omega), Nat.testBit_two_pow_sub_one]
  refine ⟨b, hb, hbt, ?_, ?_⟩
  · apply Nat.eq_of_testBit_eq
    intro i
    rw [show 2 ^ 32 - N = 2 ^ 32 - ((N - 1) + 1) by omega, Nat.testBit_and, Nat.testBit_two_pow_sub_succ (by omega), Nat.testBit_two_pow, t1, t2]
    by_cases h1 : i < b + 1
    · rw [if_pos h1, if_pos h1]
      by_cases h2 : b = i
      · subst h2; simp [hb]
      · simp [h2]
    · rw [if_neg h1, if_neg h1]
      have h2 : ¬ b = i := by omega
      cases q.testBit (i - (b + 1)) <;> simp [h2]
  · intro i
    rw [Nat.testBit_and, t1, t2]
    by_cases h1 : i < b + 1
    · rw [if_pos h1, if_pos h1]
      by_cases h2 : b = i
      · subst h2; simp
      · have h3 : ¬ i = b := fun h => h2 h.symm
        simp [h2, h3]
    · rw [if_neg h1, if_neg h1, if_neg (by omega)]
      simp
theorem bw_neg {N : Nat} (hN : N < 2 ^ 32) : -(nI N) = nI (2 ^ 32 - N) := by
  have h : nI N + nI (2 ^ 32 - N) = 0 := by
    rw [bz_add, show N + (2 ^ 32 - N) = 2 ^ 32 by omega]
    decide
  grind
theorem pcN_pw : ∀ b, b < 32 → pcN (2 ^ b - 1) = b := by decide +kernel
theorem pcN_cs : ∀ s, s < 64 → pcN s = cs s := by decide +kernel
theorem bz_pw32 : ∀ r, r < 32 → (1 : Int32) <<< (nI r &&& 31) = nI (2 ^ r) := by decide +kernel
theorem pcN_0 {N : Nat} (hN : N < 2 ^ 32) (h : pcN N = 0) : N = 0 := by
  have h1 := fb_ct_zero.mp h
  apply Nat.eq_of_testBit_eq
  intro i
  rw [Nat.zero_testBit]
  by_cases hi : i < 32
  · exact h1 i hi
  · exact Nat.testBit_lt_two_pow (Nat.lt_of_lt_of_le hN (Nat.pow_le_pow_right (by decide) (by omega)))
theorem pcN_dn {N b : Nat} (hb : b < 32) (hbt : N.testBit b = true) (h : ∀ i, (N &&& (N - 1)).testBit i = (if i = b then false else N.testBit i)) : pcN (N &&& (N - 1)) + 1 = pcN N := by
  have h1 := fb_ct_upd (fun i => N.testBit i) false hb
  rw [if_pos hbt] at h1
  unfold pcN
  rw [fb_ct_cong (p := fun i => (N &&& (N - 1)).testBit i) (q := fun k => if k = b then false else N.testBit k) (fun k _ => h k)]
  simpa using h1
def rG (I I' : Nat → Nat → Int32) (M : Nat → Nat → Prop) (D lo sz : Nat) : Prop := (∀ s, s < D → ∀ w, w < 32 → ∃ N, N < 2 ^ 32 ∧ I' (42 + s) w = nI N ∧ ∀ b, b < 32 → (N.testBit b = true ↔ M s (32 * w + b))) ∧ (I' 36 5 = nI lo ∧ I' 36 6 = nI sz) ∧ (∀ k, k ≠ 5 → k ≠ 6 → I' 36 k = I 36 k) ∧ ∀ a, a ≠ 36 → (a < 42 ∨ 106 ≤ a) → I' a = I a
theorem rG_cg {I I' : Nat → Nat → Int32} {M M' : Nat → Nat → Prop} {D lo sz : Nat} (h : rG I I' M D lo sz) (e : ∀ s, s < D → ∀ k, M s k ↔ M' s k) : rG I I' M' D lo sz :=
  ⟨fun s hs w hw => by
    obtain ⟨N, h1, h2, h3⟩ := h.1 s hs w hw
    exact ⟨N, h1, h2, fun b hb => (h3 b hb).trans (e s hs _)⟩, h.2⟩
section
variable {xs : az_X} {d : Nat} {ng c z : Nat} {I I' : Nat → Nat → Int32} {J : Nat → Nat → Int64} {K : az_O → Prop}
theorem c11 {s q D lo sz : Nat} {M : Nat → Nat → Prop} (hs : s < D) (hD : D ≤ 64) (hq : q < 1024) (hlo : lo < 1024) (hsz : sz ≤ 6) (hR : rG I I' M D lo sz) (hK : ∀ I'', rG I I'' (fun s' q' => M s' q' ∨ (s' = s ∧ q' = q)) D (if q < lo then q else if q = lo then (if cs s < sz then q else lo) else lo) (if q < lo then cs s else if q = lo then (if cs s < sz then cs s else sz) else sz) → K (0, none, (az_S, I'', J, c, z))) : az_C xs (d + 2) 11 [.ref 36, .int (nI s), .int (nI q)] (az_S, I', J, c, z) K := by
  obtain ⟨N, hN, hw, hbits⟩ := hR.1 s hs (q / 32) (by omega)
  have f1 : az_in (nI s) 64 = true := by rw [az_in_nI (by omega)]; simp; omega
  have f2 : az_in (nI (q / 32)) 32 = true := by rw [az_in_nI (by omega)]; simp; omega
  have z32 : ((32 : Int32) = 0) = False := by decide
  have e1 : nI q / 32 = nI (q / 32) := bz_div (b := 32) (by omega) (by omega)
  have e2 : nI q - nI (q / 32) * 32 = nI (q % 32) := by have := bz_rem (a := q) (b := 32) (by omega) (by omega); rw [show nI 32 = 32 from rfl, e1] at this; exact this
  have e3 := bz_pw32 (q % 32) (by omega)
  have e4 : nI N ||| nI (2 ^ (q % 32)) = nI (N ||| 2 ^ (q % 32)) := bw_or _ _
  have f3 : (36 = 42 + s) = False := by simp; omega
  have f4 : (nI q < nI lo) = (q < lo) := bz_lt (by omega) (by omega)
  have f5 : (nI q = nI lo) = (q = lo) := bz_eq (by omega) (by omega)
  have hcs : cs s ≤ 6 := fb_ct_le _ 6
  have f6 : (nI sz ≤ nI (cs s)) = (sz ≤ cs s) := bz_le (by omega) (by omega)
  have hb32 : 2 ^ (q % 32) < 2 ^ 32 := Nat.pow_lt_pow_right (by decide) (by omega)
  have hN2 : N ||| 2 ^ (q % 32) < 2 ^ 32 := Nat.or_lt_two_pow hN hb32
  have htab : ∀ I2 : Nat → Nat → Int32, (∀ a, a ≠ 36 → I2 a = az_up I' (42 + s) (q / 32) (nI (N ||| 2 ^ (q % 32))) a) → ∀ s', s' < D → ∀ w, w < 32 → ∃ N', N' < 2 ^ 32 ∧ I2 (42 + s') w = nI N' ∧ ∀ b, b < 32 → (N'.testBit b = true ↔ (M s' (32 * w + b) ∨ (s' = s ∧ 32 * w + b = q))) := by
    intro I2 hI2 s' hs' w hw'
    rw [hI2 (42 + s') (by omega), az_upe]
    by_cases h1 : s' = s
    · subst h1
      rw [if_pos rfl, upde]
      by_cases h2 : w = q / 32
      · subst h2
        rw [if_pos rfl]
        refine ⟨_, hN2, rfl, fun b hb => ?_⟩
        rw [Nat.testBit_or, Nat.testBit_two_pow, Bool.or_eq_true, hbits b hb, decide_eq_true_eq]
        constructor
        · rintro (h | h)
          · exact Or.inl h
          · exact Or.inr ⟨rfl, by omega⟩
        · rintro (h | h)
          · exact Or.inl h
          · exact Or.inr (by omega)
      · rw [if_neg h2]
        obtain ⟨N', k1, k2, k3⟩ := hR.1 s' hs' w hw'
        refine ⟨N', k1, k2, fun b hb => (k3 b hb).trans ⟨Or.inl, fun h => ?_⟩⟩
        rcases h with h | h
        · exact h
        · omega
    · rw [if_neg (by omega)]
      obtain ⟨N', k1, k2, k3⟩ := hR.1 s' hs' w hw'
      refine ⟨N', k1, k2, fun b hb => (k3 b hb).trans ⟨Or.inl, fun h => ?_⟩⟩
      rcases h with h | h
      · exact h
      · exact absurd h.1 h1
  have hup : ∀ lo' sz' : Nat, rG I (az_up (az_up (az_up I' (42 + s) (q / 32) (nI (N ||| 2 ^ (q % 32)))) 36 5 (nI lo')) 36 6 (nI sz')) (fun s' q' => M s' q' ∨ (s' = s ∧ q' = q)) D lo' sz' := fun lo' sz' => by
    refine ⟨htab _ (fun a ha => by rw [az_up_ne ha, az_up_ne ha]), ⟨by simp [az_upe, upde], by simp [az_upe, upde]⟩, fun k h1 h2 => ?_, fun a h1 h2 => ?_⟩
    · simp only [az_upe, ↓reduceIte, upde, h1, h2, if_false, f3]
      exact hR.2.2.1 k h1 h2
    · rw [az_up_ne h1, az_up_ne h1, az_up_ne (by omega)]
      exact hR.2.2.2 a h1 h2
  have hno : rG I (az_up I' (42 + s) (q / 32) (nI (N ||| 2 ^ (q % 32)))) (fun s' q' => M s' q' ∨ (s' = s ∧ q' = q)) D lo sz := by
    refine ⟨htab _ (fun a ha => rfl), ⟨by rw [az_up_ne (by omega)]; exact hR.2.1.1, by rw [az_up_ne (by omega)]; exact hR.2.1.2⟩, fun k h1 h2 => ?_, fun a h1 h2 => ?_⟩
    · rw [az_up_ne (by omega)]; exact hR.2.2.1 k h1 h2
    · rw [az_up_ne (by omega)]; exact hR.2.2.2 a h1 h2
  have hc : ∀ K' : az_O → Prop, ∀ G, az_C xs (d + 1) 87 [.int (nI s)] G K' ↔ K' (0, some (.int (nI (cs s))), G) := fun K' G => by rw [c142 (by omega), pcN_cs s (by omega)]
  by_cases h1 : q < lo
  · simp only [h1, if_true] at hK
    simp (maxDischargeDepth := 7) only [C11, th11, s11_0, s11_1, s11_4, s11_5, s11_6, s11_7, s11_9, s11_10, s11_11, s11_12, s11_13, s11_14, s11_16, s11_17, s11_18, s11_19, s11_20, s11_21, s11_24, s11_25, s11_26, s11_27, s11_30, s11_33, s11_34, s11_35, s11_38, s11_41, s11_42, s11_43, s11_46, s11_49, s11_50, s11_51, s11_54, s11_55, s11_56, s11_59, g36_4, R41, AR41, cc87, g36_5, g36_6, p36_5, p36_6, az_ex, az_bk0, az_bk1, az_bkx, az_cat0, az_cati, az_catr, az_catl, az_vi, az_vr, az_bo0, az_bo1, az_boi, true_and, and_true, if_true, if_false, ne_eq, not_true_eq_false, not_false_eq_true, List.set_cons_zero, List.set_cons_succ, Nat.reduceAdd, Nat.reduceLeDiff, Nat.reduceEqDiff, ↓reduceIte, reduceCtorEq, Nat.reduceSub, Nat.reduceMul, Int32.reduceLT, Int32.reduceLE, Int32.reduceAdd, Int32.reduceMul, Int32.reduceSub, az_ne10, az_ne20, az_ne30, Nat.zero_le, az_q0_1, az_q0_2, az_q0_3, az_q0_4, az_q0_5, az_q0_6, az_q0_7, az_q0_8, az_q1_0, az_q1_2, az_q1_3, az_q1_4, az_q1_5, az_q1_6, az_q1_7, az_q1_8, az_q2_0, az_q2_1, az_q2_3, az_q2_4, az_q2_5, az_q2_6, az_q2_7, az_q2_8, az_q3_0, az_q3_1, az_q3_2, az_q3_4, az_q3_5, az_q3_6, az_q3_7, az_q3_8, az_q4_0, az_q4_1, az_q4_2, az_q4_3, az_q4_5, az_q4_6, az_q4_7, az_q4_8, az_q5_0, az_q5_1, az_q5_2, az_q5_3, az_q5_4, az_q5_6, az_q5_7, az_q5_8, az_q6_0, az_q6_1, az_q6_2, az_q6_3, az_q6_4, az_q6_5, az_q6_7, az_q6_8, az_q7_0, az_q7_1, az_q7_2, az_q7_3, az_q7_4, az_q7_5, az_q7_6, az_q7_8, az_q8_0, az_q8_1, az_q8_2, az_q8_3, az_q8_4, az_q8_5, az_q8_6, az_q8_7, az_z10, az_z60, az_z100, az_z1000, az_z1001, az_z10000, R41, AR41 (show s < 64 by omega), z32, e1, e2, e3, e4, f1, f2, f3, f4, hc, h1, hw, az_upe, hR.2.1.1, hR.2.1.2, nI_clamp (show s < 2 ^ 31 by omega), nI_clamp (show q / 32 < 2 ^ 31 by omega)]
    exact hK _ (hup _ _)
  · by_cases h2 : q = lo
    · by_cases h3 : cs s < sz
      · simp only [if_neg h1, if_pos h2, if_pos h3] at hK
        have f5t : (nI q = nI lo) = True := by rw [f5]; exact eq_true h2
        have f6t : (nI sz ≤ nI (cs s)) = False := by rw [f6]; simp; omega
        simp (maxDischargeDepth := 7) only [C11, th11, s11_0, s11_1, s11_4, s11_5, s11_6, s11_7, s11_9, s11_10, s11_11, s11_12, s11_13, s11_14, s11_16, s11_17, s11_18, s11_19, s11_20, s11_21, s11_24, s11_25, s11_26, s11_27, s11_30, s11_33, s11_34, s11_35, s11_38, s11_41, s11_42, s11_43, s11_46, s11_49, s11_50, s11_51, s11_54, s11_55, s11_56, s11_59, g36_4, R41, AR41, cc87, g36_5, g36_6, p36_5, p36_6, az_ex, az_bk0, az_bk1, az_bkx, az_cat0, az_cati, az_catr, az_catl, az_vi, az_vr, az_bo0, az_bo1, az_boi, true_and, and_true, if_true, if_false, ne_eq, not_true_eq_false, not_false_eq_true, List.set_cons_zero, List.set_cons_succ, Nat.reduceAdd, Nat.reduceLeDiff, Nat.reduceEqDiff, ↓reduceIte, reduceCtorEq, Nat.reduceSub, Nat.reduceMul, Int32.reduceLT, Int32.reduceLE, Int32.reduceAdd, Int32.reduceMul, Int32.reduceSub, az_ne10, az_ne20, az_ne30, Nat.zero_le, az_q0_1, az_q0_2, az_q0_3, az_q0_4, az_q0_5, az_q0_6, az_q0_7, az_q0_8, az_q1_0, az_q1_2, az_q1_3, az_q1_4, az_q1_5, az_q1_6, az_q1_7, az_q1_8, az_q2_0, az_q2_1, az_q2_3, az_q2_4, az_q2_5, az_q2_6, az_q2_7, az_q2_8, az_q3_0, az_q3_1, az_q3_2, az_q3_4, az_q3_5, az_q3_6, az_q3_7, az_q3_8, az_q4_0, az_q4_1, az_q4_2, az_q4_3, az_q4_5, az_q4_6, az_q4_7, az_q4_8, az_q5_0, az_q5_1, az_q5_2, az_q5_3, az_q5_4, az_q5_6, az_q5_7, az_q5_8, az_q6_0, az_q6_1, az_q6_2, az_q6_3, az_q6_4, az_q6_5, az_q6_7, az_q6_8, az_q7_0, az_q7_1, az_q7_2, az_q7_3, az_q7_4, az_q7_5, az_q7_6, az_q7_8, az_q8_0, az_q8_1, az_q8_2, az_q8_3, az_q8_4, az_q8_5, az_q8_6, az_q8_7, az_z10, az_z60, az_z100, az_z1000, az_z1001, az_z10000, R41, AR41 (show s < 64 by omega), z32, e1, e2, e3, e4, f1, f2, f3, f4, f5t, f6t, hc, h1, hw, az_upe, hR.2.1.1, hR.2.1.2, nI_clamp (show s < 2 ^ 31 by omega), nI_clamp (show q / 32 < 2 ^ 31 by omega)]
        exact hK _ (hup _ _)
      · simp only [if_neg h1, if_pos h2, if_neg h3] at hK
        have f5t : (nI q = nI lo) = True := by rw [f5]; exact eq_true h2
        have f6t : (nI sz ≤ nI (cs s)) = True := by rw [f6]; simp; omega
        simp (maxDischargeDepth := 7) only [C11, th11, s11_0, s11_1, s11_4, s11_5, s11_6, s11_7, s11_9, s11_10, s11_11, s11_12, s11_13, s11_14, s11_16, s11_17, s11_18, s11_19, s11_20, s11_21, s11_24, s11_25, s11_26, s11_27, s11_30, s11_33, s11_34, s11_35, s11_38, s11_41, s11_42, s11_43, s11_46, s11_49, s11_50, s11_51, s11_54, s11_55, s11_56, s11_59, g36_4, R41, AR41, cc87, g36_5, g36_6, p36_5, p36_6, az_ex, az_bk0, az_bk1, az_bkx, az_cat0, az_cati, az_catr, az_catl, az_vi, az_vr, az_bo0, az_bo1, az_boi, true_and, and_true, if_true, if_false, ne_eq, not_true_eq_false, not_false_eq_true, List.set_cons_zero, List.set_cons_succ, Nat.reduceAdd, Nat.reduceLeDiff, Nat.reduceEqDiff, ↓reduceIte, reduceCtorEq, Nat.reduceSub, Nat.reduceMul, Int32.reduceLT, Int32.reduceLE, Int32.reduceAdd, Int32.reduceMul, Int32.reduceSub, az_ne10, az_ne20, az_ne30, Nat.zero_le, az_q0_1, az_q0_2, az_q0_3, az_q0_4, az_q0_5, az_q0_6, az_q0_7, az_q0_8, az_q1_0, az_q1_2, az_q1_3, az_q1_4, az_q1_5, az_q1_6, az_q1_7, az_q1_8, az_q2_0, az_q2_1, az_q2_3, az_q2_4, az_q2_5, az_q2_6, az_q2_7, az_q2_8, az_q3_0, az_q3_1, az_q3_2, az_q3_4, az_q3_5, az_q3_6, az_q3_7, az_q3_8, az_q4_0, az_q4_1, az_q4_2, az_q4_3, az_q4_5, az_q4_6, az_q4_7, az_q4_8, az_q5_0, az_q5_1, az_q5_2, az_q5_3, az_q5_4, az_q5_6, az_q5_7, az_q5_8, az_q6_0, az_q6_1, az_q6_2, az_q6_3, az_q6_4, az_q6_5, az_q6_7, az_q6_8, az_q7_0, az_q7_1, az_q7_2, az_q7_3, az_q7_4, az_q7_5, az_q7_6, az_q7_8, az_q8_0, az_q8_1, az_q8_2, az_q8_3, az_q8_4, az_q8_5, az_q8_6, az_q8_7, az_z10, az_z60, az_z100, az_z1000, az_z1001, az_z10000, R41, AR41 (show s < 64 by omega), z32, e1, e2, e3, e4, f1, f2, f3, f4, f5t, f6t, hc, h1, hw, az_upe, hR.2.1.1, hR.2.1.2, nI_clamp (show s < 2 ^ 31 by omega), nI_clamp (show q / 32 < 2 ^ 31 by omega)]
        exact hK _ hno
    · simp only [if_neg h1, if_neg h2] at hK
      have f5t : (nI q = nI lo) = False := by rw [f5]; exact eq_false h2
      simp (maxDischargeDepth := 7) only [C11, th11, s11_0, s11_1, s11_4, s11_5, s11_6, s11_7, s11_9, s11_10, s11_11, s11_12, s11_13, s11_14, s11_16, s11_17, s11_18, s11_19, s11_20, s11_21, s11_24, s11_25, s11_26, s11_27, s11_30, s11_33, s11_34, s11_35, s11_38, s11_41, s11_42, s11_43, s11_46, s11_49, s11_50, s11_51, s11_54, s11_55, s11_56, s11_59, g36_4, R41, AR41, cc87, g36_5, g36_6, p36_5, p36_6, az_ex, az_bk0, az_bk1, az_bkx, az_cat0, az_cati, az_catr, az_catl, az_vi, az_vr, az_bo0, az_bo1, az_boi, true_and, and_true, if_true, if_false, ne_eq, not_true_eq_false, not_false_eq_true, List.set_cons_zero, List.set_cons_succ, Nat.reduceAdd, Nat.reduceLeDiff, Nat.reduceEqDiff, ↓reduceIte, reduceCtorEq, Nat.reduceSub, Nat.reduceMul, Int32.reduceLT, Int32.reduceLE, Int32.reduceAdd, Int32.reduceMul, Int32.reduceSub, az_ne10, az_ne20, az_ne30, Nat.zero_le, az_q0_1, az_q0_2, az_q0_3, az_q0_4, az_q0_5, az_q0_6, az_q0_7, az_q0_8, az_q1_0, az_q1_2, az_q1_3, az_q1_4, az_q1_5, az_q1_6, az_q1_7, az_q1_8, az_q2_0, az_q2_1, az_q2_3, az_q2_4, az_q2_5, az_q2_6, az_q2_7, az_q2_8, az_q3_0, az_q3_1, az_q3_2, az_q3_4, az_q3_5, az_q3_6, az_q3_7, az_q3_8, az_q4_0, az_q4_1, az_q4_2, az_q4_3, az_q4_5, az_q4_6, az_q4_7, az_q4_8, az_q5_0, az_q5_1, az_q5_2, az_q5_3, az_q5_4, az_q5_6, az_q5_7, az_q5_8, az_q6_0, az_q6_1, az_q6_2, az_q6_3, az_q6_4, az_q6_5, az_q6_7, az_q6_8, az_q7_0, az_q7_1, az_q7_2, az_q7_3, az_q7_4, az_q7_5, az_q7_6, az_q7_8, az_q8_0, az_q8_1, az_q8_2, az_q8_3, az_q8_4, az_q8_5, az_q8_6, az_q8_7, az_z10, az_z60, az_z100, az_z1000, az_z1001, az_z10000, R41, AR41 (show s < 64 by omega), z32, e1, e2, e3, e4, f1, f2, f3, f4, f5t, hc, h1, hw, az_upe, hR.2.1.1, hR.2.1.2, nI_clamp (show s < 2 ^ 31 by omega), nI_clamp (show q / 32 < 2 ^ 31 by omega)]
      exact hK _ hno
end
