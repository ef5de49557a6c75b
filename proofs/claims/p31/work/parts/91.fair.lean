/-! areKept of the other object; areFair -/
section
variable {xs : az_X} {d mo nc nl ng np t c z : Nat} {I : St} {J : Nat → Nat → Int64} {K : az_O → Prop} {s s2 : St}
theorem W97p (ht : t < 600) (H : PC s2 mo nc nl ng np t) (hF : KF s2 mo nc nl np) (hS : St2 I s s2) (hK : ∀ I' c' z', St2 I' s s2 → c' ≤ c + 200 → z' ≤ z + 1200 → K (0, some (.int 1), (az_S, I', J, c', z'))) : az_C xs (d + 15) 97 [.ref 152] (az_S, I, J, c, z) K := by
  obtain ⟨rfl, rfl⟩ := hS
  refine swp (as := [.ref 0]) (P := fun n9 w I' c' z' => n9 = 0 ∧ w = some (.int 1) ∧ St2 I' (kr (fun a => I (rn a))) (kr I) ∧ c' ≤ c + 200 ∧ z' ≤ z + 1200) (fun K0 hK0 => W97 ht H hF ⟨rfl, by rw [rn_twice (J := I)]⟩ fun I' c' z' h1 h2 h3 => hK0 _ _ _ _ _ ⟨rfl, rfl, h1, h2, h3⟩) ?_
  rintro n9 w I' c' z' ⟨rfl, rfl, ⟨h1, h2⟩, h3, h4⟩
  refine hK _ c' z' ⟨h2, ?_⟩ h3 h4
  rw [rn_twice (J := I')]
  exact h1
/-- what low gives -/
theorem low_r {v : Int32} {n : Nat} (h0 : 0 < n) (hn : n < 2 ^ 31) : ∃ r, r < n ∧ (v &&& 2147483647) - (v &&& 2147483647) / nI n * nI n = nI r := by
  obtain ⟨N, hN, rfl⟩ := bw_of v
  refine ⟨(N &&& 2147483647) % n, Nat.mod_lt _ h0, ?_⟩
  rw [show (2147483647 : Int32) = nI 2147483647 from rfl, bw_and]
  have : N &&& 2147483647 ≤ 2147483647 := Nat.and_le_right
  exact bz_rem (by omega) hn
theorem few_ex {xs : az_X} (H : PC I mo nc nl ng np t) {p : Nat} (hp1 : 1 ≤ p) (hp : p ≤ 1000) : ∃ lo sz, sz ≤ 6 ∧ LX (fun s q => s < 2 ^ ng ∧ GP (apI I) (lsI I) (bmI I) ng p s q) lo sz := by
  obtain ⟨⟨⟨n1, n3⟩, ⟨n4, n6⟩, ⟨n7, n9⟩, ⟨n10, n12⟩, ⟨n13, n15⟩⟩, q6, q7, q8, q9, q10, q11, q12⟩ := H
  have h := c7 (xs := xs) (d := 20) (J := fun _ _ => 0) (c := 0) (z := 0) (K := fun _ => ∃ lo sz, sz ≤ 6 ∧ LX (fun s q => s < 2 ^ ng ∧ GP (apI I) (lsI I) (bmI I) ng p s q) lo sz) q11 q6 n12 n10 hp1 hp (fun I' lo sz h1 h2 h3 _ _ _ _ => ⟨lo, sz, h2, h3⟩)
  cases h with
  | intro f h => exact h.choose_spec.2
theorem cs0 : ∀ u, u < 64 → cs u = 0 → u = 0 := by decide +kernel
theorem few_f (H : PC s mo nc nl ng np t) {p : Nat} (hp1 : 1 ≤ p) (hp : p ≤ 1000) : lowN s p ≤ p ∧ fewN s p ≤ 6 ∧ (fewN s p = 0 ↔ lowN s p = p) := by
  obtain ⟨lo, sz, hsz, hX⟩ := few_ex (xs := (0, fun _ => 0)) H hp1 hp
  obtain ⟨⟨⟨n1, n3⟩, ⟨n4, n6⟩, ⟨n7, n9⟩, ⟨n10, n12⟩, ⟨n13, n15⟩⟩, q6, q7, q8, q9, q10, q11, q12⟩ := H
  have eng : ngN s = ng := by unfold ngN; rw [n10, nI_clamp (by omega)]
  have hX' : LX (fun u q => u < 2 ^ ngN s ∧ GP (apI s) (lsI s) (bmI s) (ngN s) p u q) lo sz := by rw [eng]; exact hX
  have e1 : fewN s p = sz := fewN_of hX'
  have e2 : lowN s p = lo := by unfold lowN; rw [eng]; exact best_eq q6 n12 hX
  rw [e1, e2]
  refine ⟨?_, hsz, ?_, ?_⟩
  · rw [← e2]
    exact LF_le_p
  · intro h0
    obtain ⟨⟨u, ⟨hu1, hu2⟩, hu3⟩, -⟩ := hX
    have hu4 : u < 64 := Nat.lt_of_lt_of_le hu1 (Nat.pow_le_pow_right (by decide) n12)
    have hu5 := cs0 u hu4 (by rw [hu3]; exact h0)
    subst hu5
    exact GP_0.mp hu2
  · intro h0
    have h := hX.2 0 p ⟨Nat.pow_pos (by decide), GP_0.mpr rfl⟩
    rcases h with h | h
    · omega
    · have : cs 0 = 0 := by decide
      omega
theorem code_all : ∀ k, k < 12 → ∀ x, x < 4 → ∀ y, y < 3 → ¬ codS (nuS (3571 * nI k + 977 * nI x + 131 * nI y + 2718)) < 0 := by decide +kernel
theorem code_f (H : PC s mo nc nl ng np t) {a : Int32} (ha : az_in a (ncN s) = true) : ¬ codeS s a < 0 := by
  obtain ⟨⟨⟨n1, n3⟩, ⟨n4, n6⟩, ⟨n7, n9⟩, ⟨n10, n12⟩, ⟨n13, n15⟩⟩, q6, q7, q8, q9, q10, q11, q12⟩ := H
  have enc : ncN s = nc := by unfold ncN; rw [n4, nI_clamp (by omega)]
  rw [enc] at ha
  obtain ⟨k1, k2⟩ := az_in_k ha
  obtain ⟨⟨c1, c2⟩, -⟩ := q9.1 _ k1
  obtain ⟨x1, x2⟩ := az_in_k c1
  obtain ⟨y1, y2⟩ := az_in_k c2
  have h := code_all a.toNatClampNeg (by omega) _ x1 _ y1
  unfold codeS numS
  rw [x2, y2, k2, nI_clamp (by omega)]
  rw [← k2, ← x2, ← y2] at h
  rw [← k2, ← x2, ← y2]
  exact h
theorem why_f {ca pr : Int32} : ((fdo 10 ca pr 0 0 s).1 = 0 → ¬ (fdo 18 ca 1 0 0 s).1 < nI (lowN s pr.toNatClampNeg)) ∧ ((fdo 10 ca pr 0 0 s).1 = 4 → (fdo 18 ca 1 0 0 s).1 < nI (lowN s pr.toNatClampNeg)) := by
  have e10 : (fdo 10 ca pr 0 0 s).1 = if az_in ca (ncN s) = true ∧ (1 ≤ pr ∧ pr ≤ 1000) then rsn s ca (nI (lowN s pr.toNatClampNeg)) else bad := by
    show (f_why s ca pr).1 = _
    unfold f_why
    split <;> rfl
  rw [e10]
  by_cases h : az_in ca (ncN s) = true ∧ (1 ≤ pr ∧ pr ≤ 1000)
  · rw [if_pos h]
    have e18 : (fdo 18 ca 1 0 0 s).1 = balS s ca := cd1 h.1
    rw [e18]
    unfold rsn
    refine ⟨fun q => ?_, fun q => ?_⟩ <;> (repeat' split at q) <;> first | assumption | exact absurd q (by decide)
  · rw [if_neg h]
    exact ⟨fun q => absurd q (by decide), fun q => absurd q (by decide)⟩
theorem att_f (H : PC s mo nc nl ng np t) {ca cb : Int32} (hcb : cb = if (fdo 18 ca 4 0 0 s).1 < 0 then 0 else (fdo 18 ca 4 0 0 s).1) : (fdo 14 ca cb 0 0 s).1 < 0 ∨ ((fdo 14 ca cb 0 0 s).1 = 1 ∧ az_in ca (ncN s) = true ∧ (fdo 14 ca cb 0 0 s).2 = az_up s 26 ca.toNatClampNeg 0) := by
  have e14 : fdo 14 ca cb 0 0 s = f_att s ca cb := rfl
  rw [e14]
  unfold f_att
  by_cases h : az_in ca (ncN s) = true ∧ (0 ≤ cb ∧ cb ≤ 99999) ∧ s 24 ca.toNatClampNeg = 0
  · rw [if_pos h]
    have e18 : (fdo 18 ca 4 0 0 s).1 = codeS s ca := cd4 h.1
    rw [e18, if_neg (code_f H h.1)] at hcb
    rw [if_pos hcb]
    exact Or.inr ⟨rfl, h.1, rfl⟩
  · rw [if_neg h]
    exact Or.inl (by show bad < 0; decide)
set_option maxRecDepth 4000 in
theorem W98 {v : Int32} (ht : t < 599) (H : PC s mo nc nl ng np t) (hstep : ∀ n a b e f, n < 27 → ∃ mo nc nl ng np, PC (fdo n a b e f s).2 mo nc nl ng np (t + 1)) (hS : St2 I s s) (hK : ∀ I' c' z' ca cb, St2 I' (fdo 14 ca cb 0 0 s).2 (fdo 14 ca cb 0 0 s).2 → c' ≤ c + 10 → z' ≤ z + 60 → K (0, some (.int 1), (az_S, I', J, c', z'))) : az_C xs (d + 15) 98 [.ref 0, .ref 152, .int v] (az_S, I, J, c, z) K := by
  obtain ⟨r, hr, er⟩ := low_r (v := v) (n := 1000) (by omega) (by omega)
  rw [show nI 1000 = 1000 from rfl] at er
  obtain ⟨p, hp⟩ : ∃ p, p = 1 + r := ⟨_, rfl⟩
  have ep : 1 + nI r = nI p := by rw [hp, show (1 : Int32) = nI 1 from rfl, bz_add]
  have hpr : 1 ≤ nI p ∧ nI p ≤ 1000 := ⟨by rw [show (1 : Int32) = nI 1 from rfl, bz_le (by omega) (by omega)]; omega, by rw [show (1000 : Int32) = nI 1000 from rfl, bz_le (by omega) (by omega)]; omega⟩
  have hpc := nI_clamp (show p < 2 ^ 31 by omega)
  obtain ⟨f1, f2, f3⟩ := few_f H (show 1 ≤ p by omega) (show p ≤ 1000 by omega)
  simp (maxDischargeDepth := 7) only [C98, s98_0, s98_1, s98_2, s98_5, s98_8, s98_9, s98_10, s98_11, s98_12, cc90, cc47, az_ex, az_bk0, az_bk1, az_bkx, az_cat0, az_cati, az_catr, az_catl, az_vi, az_vr, az_bo0, az_bo1, az_boi, true_and, and_true, if_true, if_false, ne_eq, not_true_eq_false, not_false_eq_true, List.set_cons_zero, List.set_cons_succ, Nat.reduceAdd, Nat.reduceLeDiff, Nat.reduceEqDiff, ↓reduceIte, reduceCtorEq, Nat.reduceSub, Nat.reduceMul, Int32.reduceLT, Int32.reduceLE, Int32.reduceAdd, Int32.reduceMul, Int32.reduceSub, az_ne10, az_ne20, az_ne30, Nat.zero_le, az_q0_1, az_q0_2, az_q0_3, az_q0_4, az_q0_5, az_q0_6, az_q0_7, az_q0_8, az_q1_0, az_q1_2, az_q1_3, az_q1_4, az_q1_5, az_q1_6, az_q1_7, az_q1_8, az_q2_0, az_q2_1, az_q2_3, az_q2_4, az_q2_5, az_q2_6, az_q2_7, az_q2_8, az_q3_0, az_q3_1, az_q3_2, az_q3_4, az_q3_5, az_q3_6, az_q3_7, az_q3_8, az_q4_0, az_q4_1, az_q4_2, az_q4_3, az_q4_5, az_q4_6, az_q4_7, az_q4_8, az_q5_0, az_q5_1, az_q5_2, az_q5_3, az_q5_4, az_q5_6, az_q5_7, az_q5_8, az_q6_0, az_q6_1, az_q6_2, az_q6_3, az_q6_4, az_q6_5, az_q6_7, az_q6_8, az_q7_0, az_q7_1, az_q7_2, az_q7_3, az_q7_4, az_q7_5, az_q7_6, az_q7_8, az_q8_0, az_q8_1, az_q8_2, az_q8_3, az_q8_4, az_q8_5, az_q8_6, az_q8_7, az_z10, az_z60, az_z100, az_z1000, az_z1001, az_z10000, c90, cc90, hz1000, er, ep, cc47]
  refine Q47 (d := d + 2) hS H hpr fun I1 h1 => ?_
  simp (maxDischargeDepth := 7) only [s98_15, s98_17, s98_18, s98_19, cc49, az_ex, az_bk0, az_bk1, az_bkx, az_cat0, az_cati, az_catr, az_catl, az_vi, az_vr, az_bo0, az_bo1, az_boi, true_and, and_true, if_true, if_false, ne_eq, not_true_eq_false, not_false_eq_true, List.set_cons_zero, List.set_cons_succ, Nat.reduceAdd, Nat.reduceLeDiff, Nat.reduceEqDiff, ↓reduceIte, reduceCtorEq, Nat.reduceSub, Nat.reduceMul, Int32.reduceLT, Int32.reduceLE, Int32.reduceAdd, Int32.reduceMul, Int32.reduceSub, az_ne10, az_ne20, az_ne30, Nat.zero_le, cc49, hpc]
  refine Q49 (d := d + 2) h1 H hpr fun I2 h2 => ?_
  rw [hpc]
  have g1 : (nI (lowN s p) < 0) = False := by rw [show (0 : Int32) = nI 0 from rfl, bz_lt (by omega) (by omega)]; simp
  have g2 : (nI p < nI (lowN s p)) = False := by rw [bz_lt (by omega) (by omega)]; simp; omega
  have g3 : (nI (fewN s p) = 0) = (lowN s p = p) := by rw [show (0 : Int32) = nI 0 from rfl, bz_eq (by omega) (by omega)]; exact propext f3
  have g4 : (nI (lowN s p) = nI p) = (lowN s p = p) := bz_eq (by omega) (by omega)
  have g5 : (7 ≤ nI (fewN s p)) = False := by rw [show (7 : Int32) = nI 7 from rfl, bz_le (by omega) (by omega)]; simp; omega
  obtain ⟨ca, hca⟩ : ∃ ca : Int32, ca = (v >>> ((3 : Int32) &&& 31) &&& 2147483647) - (v >>> ((3 : Int32) &&& 31) &&& 2147483647) / 8 * 8 := ⟨_, rfl⟩
  have tail : ∀ I3, St2 I3 s s → az_W xs (d + 14) 98 81 [some (.ref 0), some (.ref 152), some (.int v), some (.int (nI p)), some (.int (nI (lowN s p))), some (.int (nI (fewN s p))), none, none, none, none, none, none] [.int 1] (az_S, I3, J, c, z) K := by
    intro I3 h3
    simp (maxDischargeDepth := 7) only [s98_81, s98_83, s98_84, s98_85, s98_86, s98_88, s98_91, s98_93, s98_94, s98_96, s98_98, s98_99, s98_100, s98_101, cc90, cc91, az_ex, az_bk0, az_bk1, az_bkx, az_cat0, az_cati, az_catr, az_catl, az_vi, az_vr, az_bo0, az_bo1, az_boi, true_and, and_true, if_true, if_false, ne_eq, not_true_eq_false, not_false_eq_true, List.set_cons_zero, List.set_cons_succ, Nat.reduceAdd, Nat.reduceLeDiff, Nat.reduceEqDiff, ↓reduceIte, reduceCtorEq, Nat.reduceSub, Nat.reduceMul, Int32.reduceLT, Int32.reduceLE, Int32.reduceAdd, Int32.reduceMul, Int32.reduceSub, az_ne10, az_ne20, az_ne30, Nat.zero_le, az_q0_1, az_q0_2, az_q0_3, az_q0_4, az_q0_5, az_q0_6, az_q0_7, az_q0_8, az_q1_0, az_q1_2, az_q1_3, az_q1_4, az_q1_5, az_q1_6, az_q1_7, az_q1_8, az_q2_0, az_q2_1, az_q2_3, az_q2_4, az_q2_5, az_q2_6, az_q2_7, az_q2_8, az_q3_0, az_q3_1, az_q3_2, az_q3_4, az_q3_5, az_q3_6, az_q3_7, az_q3_8, az_q4_0, az_q4_1, az_q4_2, az_q4_3, az_q4_5, az_q4_6, az_q4_7, az_q4_8, az_q5_0, az_q5_1, az_q5_2, az_q5_3, az_q5_4, az_q5_6, az_q5_7, az_q5_8, az_q6_0, az_q6_1, az_q6_2, az_q6_3, az_q6_4, az_q6_5, az_q6_7, az_q6_8, az_q7_0, az_q7_1, az_q7_2, az_q7_3, az_q7_4, az_q7_5, az_q7_6, az_q7_8, az_q8_0, az_q8_1, az_q8_2, az_q8_3, az_q8_4, az_q8_5, az_q8_6, az_q8_7, az_z10, az_z60, az_z100, az_z1000, az_z1001, az_z10000, c90, cc90, hz8, ← hca]
    refine do_o (n := 10) (by decide) (by omega) h3 H fun I4 c4 z4 h4 k4 l4 => ?_
    rw [q2_10] at h4
    simp (maxDischargeDepth := 7) only [s98_104, s98_106, s98_107, s98_109, s98_111, s98_112, s98_113, s98_114, cc91, az_ex, az_bk0, az_bk1, az_bkx, az_cat0, az_cati, az_catr, az_catl, az_vi, az_vr, az_bo0, az_bo1, az_boi, true_and, and_true, if_true, if_false, ne_eq, not_true_eq_false, not_false_eq_true, List.set_cons_zero, List.set_cons_succ, Nat.reduceAdd, Nat.reduceLeDiff, Nat.reduceEqDiff, ↓reduceIte, reduceCtorEq, Nat.reduceSub, Nat.reduceMul, Int32.reduceLT, Int32.reduceLE, Int32.reduceAdd, Int32.reduceMul, Int32.reduceSub, az_ne10, az_ne20, az_ne30, Nat.zero_le]
    refine do_o (n := 18) (by decide) (by omega) h4 H fun I5 c5 z5 h5 k5 l5 => ?_
    rw [q2 (by decide) (by decide)] at h5
    obtain ⟨w0, w4⟩ := why_f (s := s) (ca := ca) (pr := nI p)
    rw [hpc] at w0 w4
    generalize hW : (fdo 10 ca (nI p) 0 0 s).1 = WHY at *
    generalize hB : (fdo 18 ca 1 0 0 s).1 = BAL at *
    obtain ⟨cb, hcb⟩ : ∃ cb, cb = if (fdo 18 ca 4 0 0 s).1 < 0 then 0 else (fdo 18 ca 4 0 0 s).1 := ⟨_, rfl⟩
    obtain ⟨mo2, nc2, nl2, ng2, np2, H2⟩ := hstep 14 ca cb 0 0 (by decide)
    have t156 : az_W xs (d + 14) 98 156 [some (.ref 0), some (.ref 152), some (.int v), some (.int (nI p)), some (.int (nI (lowN s p))), some (.int (nI (fewN s p))), some (.int 1), some (.int ca), some (.int WHY), some (.int BAL), none, none] [] (az_S, I5, J, c5, z5) K := by
      simp (maxDischargeDepth := 7) only [s98_156, s98_157, s98_159, s98_161, s98_162, s98_163, s98_164, cc91, az_ex, az_bk0, az_bk1, az_bkx, az_cat0, az_cati, az_catr, az_catl, az_vi, az_vr, az_bo0, az_bo1, az_boi, true_and, and_true, if_true, if_false, ne_eq, not_true_eq_false, not_false_eq_true, List.set_cons_zero, List.set_cons_succ, Nat.reduceAdd, Nat.reduceLeDiff, Nat.reduceEqDiff, ↓reduceIte, reduceCtorEq, Nat.reduceSub, Nat.reduceMul, Int32.reduceLT, Int32.reduceLE, Int32.reduceAdd, Int32.reduceMul, Int32.reduceSub, az_ne10, az_ne20, az_ne30, Nat.zero_le]
      refine do_o (n := 18) (by decide) (by omega) h5 H fun I6 c6 z6 h6 k6 l6 => ?_
      rw [q2 (by decide) (by decide)] at h6
      have t187 : az_W xs (d + 14) 98 185 [some (.ref 0), some (.ref 152), some (.int v), some (.int (nI p)), some (.int (nI (lowN s p))), some (.int (nI (fewN s p))), some (.int 1), some (.int ca), some (.int WHY), some (.int BAL), some (.int (fdo 18 ca 4 0 0 s).1), none] [.int cb, .int ca, .int 14, .ref 0] (az_S, I6, J, c6, z6) K := by
        simp (maxDischargeDepth := 7) only [s98_185, s98_186, s98_187, cc91, az_ex, az_bk0, az_bk1, az_bkx, az_cat0, az_cati, az_catr, az_catl, az_vi, az_vr, az_bo0, az_bo1, az_boi, true_and, and_true, if_true, if_false, ne_eq, not_true_eq_false, not_false_eq_true, List.set_cons_zero, List.set_cons_succ, Nat.reduceAdd, Nat.reduceLeDiff, Nat.reduceEqDiff, ↓reduceIte, reduceCtorEq, Nat.reduceSub, Nat.reduceMul, Int32.reduceLT, Int32.reduceLE, Int32.reduceAdd, Int32.reduceMul, Int32.reduceSub, az_ne10, az_ne20, az_ne30, Nat.zero_le]
        refine do_o (n := 14) (by decide) (by omega) h6 H fun I7 c7 z7 h7 k7 l7 => ?_
        have t213 : az_W xs (d + 14) 98 213 [some (.ref 0), some (.ref 152), some (.int v), some (.int (nI p)), some (.int (nI (lowN s p))), some (.int (nI (fewN s p))), some (.int 1), some (.int ca), some (.int WHY), some (.int BAL), some (.int (fdo 18 ca 4 0 0 s).1), some (.int (fdo 14 ca cb 0 0 s).1)] [.int cb, .int ca, .int 14, .ref 152] (az_S, I7, J, c7, z7) K := by
          simp (maxDischargeDepth := 7) only [s98_213, s98_214, s98_215, cc91, az_ex, az_bk0, az_bk1, az_bkx, az_cat0, az_cati, az_catr, az_catl, az_vi, az_vr, az_bo0, az_bo1, az_boi, true_and, and_true, if_true, if_false, ne_eq, not_true_eq_false, not_false_eq_true, List.set_cons_zero, List.set_cons_succ, Nat.reduceAdd, Nat.reduceLeDiff, Nat.reduceEqDiff, ↓reduceIte, reduceCtorEq, Nat.reduceSub, Nat.reduceMul, Int32.reduceLT, Int32.reduceLE, Int32.reduceAdd, Int32.reduceMul, Int32.reduceSub, az_ne10, az_ne20, az_ne30, Nat.zero_le]
          refine do_p (n := 14) (by decide) (by omega) h7 H fun I8 c8 z8 h8 k8 l8 => ?_
          rcases att_f H hcb with a1 | ⟨a1, a2, a3⟩
          · have a1' := eq_true a1
            simp (maxDischargeDepth := 7) only [s98_218, s98_220, s98_223, s98_225, s98_256, s98_257, s98_260, s98_261, az_ex, az_bk0, az_bk1, az_bkx, az_cat0, az_cati, az_catr, az_catl, az_vi, az_vr, az_bo0, az_bo1, az_boi, true_and, and_true, if_true, if_false, ne_eq, not_true_eq_false, not_false_eq_true, List.set_cons_zero, List.set_cons_succ, Nat.reduceAdd, Nat.reduceLeDiff, Nat.reduceEqDiff, ↓reduceIte, reduceCtorEq, Nat.reduceSub, Nat.reduceMul, Int32.reduceLT, Int32.reduceLE, Int32.reduceAdd, Int32.reduceMul, Int32.reduceSub, az_ne10, az_ne20, az_ne30, Nat.zero_le, a1']
            exact hK I8 c8 z8 ca cb h8 (by omega) (by omega)
          · have ha2 : ncN (fdo 14 ca cb 0 0 s).2 = ncN s := by rw [a3]; rfl
            have enc2 : ncN (fdo 14 ca cb 0 0 s).2 = nc2 := by unfold ncN; rw [H2.1.2.1.1, nI_clamp (by have := H2.1.2.1.2; omega)]
            have hin2 : az_in ca nc2 = true := by rw [← enc2, ha2]; exact a2
            have b3 : (f_ofCard (fdo 14 ca cb 0 0 s).2 ca 3).1 = 0 := by
              rw [cd3 (by rw [ha2]; exact a2), a3, az_upe, if_pos rfl, upde, if_pos rfl]
            have b1 : (f_ofCard (fdo 14 ca cb 0 0 s).2 ca 1).1 = BAL := by
              rw [cd1 (by rw [ha2]; exact a2), ← hB]
              have e18 : (fdo 18 ca 1 0 0 s).1 = balS s ca := cd1 a2
              rw [e18, a3]
              rfl
            have n10 : ((1 : Int32) < 0) = False := by decide
            simp (maxDischargeDepth := 7) only [s98_218, s98_220, s98_223, s98_225, s98_228, s98_230, s98_231, s98_234, s98_235, s98_237, s98_238, cc60, az_ex, az_bk0, az_bk1, az_bkx, az_cat0, az_cati, az_catr, az_catl, az_vi, az_vr, az_bo0, az_bo1, az_boi, true_and, and_true, if_true, if_false, ne_eq, not_true_eq_false, not_false_eq_true, List.set_cons_zero, List.set_cons_succ, Nat.reduceAdd, Nat.reduceLeDiff, Nat.reduceEqDiff, ↓reduceIte, reduceCtorEq, Nat.reduceSub, Nat.reduceMul, Int32.reduceLT, Int32.reduceLE, Int32.reduceAdd, Int32.reduceMul, Int32.reduceSub, az_ne10, az_ne20, az_ne30, Nat.zero_le, a1, n10, cc60]
            refine Q60 (d := d + 2) h8 H2 hin2 (by decide) fun I9 h9 => ?_
            rw [b3]
            simp (maxDischargeDepth := 7) only [s98_241, s98_244, s98_245, s98_247, s98_248, cc60, az_ex, az_bk0, az_bk1, az_bkx, az_cat0, az_cati, az_catr, az_catl, az_vi, az_vr, az_bo0, az_bo1, az_boi, true_and, and_true, if_true, if_false, ne_eq, not_true_eq_false, not_false_eq_true, List.set_cons_zero, List.set_cons_succ, Nat.reduceAdd, Nat.reduceLeDiff, Nat.reduceEqDiff, ↓reduceIte, reduceCtorEq, Nat.reduceSub, Nat.reduceMul, Int32.reduceLT, Int32.reduceLE, Int32.reduceAdd, Int32.reduceMul, Int32.reduceSub, az_ne10, az_ne20, az_ne30, Nat.zero_le, az_q0_1, az_q0_2, az_q0_3, az_q0_4, az_q0_5, az_q0_6, az_q0_7, az_q0_8, az_q1_0, az_q1_2, az_q1_3, az_q1_4, az_q1_5, az_q1_6, az_q1_7, az_q1_8, az_q2_0, az_q2_1, az_q2_3, az_q2_4, az_q2_5, az_q2_6, az_q2_7, az_q2_8, az_q3_0, az_q3_1, az_q3_2, az_q3_4, az_q3_5, az_q3_6, az_q3_7, az_q3_8, az_q4_0, az_q4_1, az_q4_2, az_q4_3, az_q4_5, az_q4_6, az_q4_7, az_q4_8, az_q5_0, az_q5_1, az_q5_2, az_q5_3, az_q5_4, az_q5_6, az_q5_7, az_q5_8, az_q6_0, az_q6_1, az_q6_2, az_q6_3, az_q6_4, az_q6_5, az_q6_7, az_q6_8, az_q7_0, az_q7_1, az_q7_2, az_q7_3, az_q7_4, az_q7_5, az_q7_6, az_q7_8, az_q8_0, az_q8_1, az_q8_2, az_q8_3, az_q8_4, az_q8_5, az_q8_6, az_q8_7, az_z10, az_z60, az_z100, az_z1000, az_z1001, az_z10000, cc60]
            refine Q60 (d := d + 2) h9 H2 hin2 (by decide) fun I10 h10 => ?_
            rw [b1]
            simp (maxDischargeDepth := 7) only [s98_251, s98_253, s98_256, s98_257, s98_260, s98_261, az_ex, az_bk0, az_bk1, az_bkx, az_cat0, az_cati, az_catr, az_catl, az_vi, az_vr, az_bo0, az_bo1, az_boi, true_and, and_true, if_true, if_false, ne_eq, not_true_eq_false, not_false_eq_true, List.set_cons_zero, List.set_cons_succ, Nat.reduceAdd, Nat.reduceLeDiff, Nat.reduceEqDiff, ↓reduceIte, reduceCtorEq, Nat.reduceSub, Nat.reduceMul, Int32.reduceLT, Int32.reduceLE, Int32.reduceAdd, Int32.reduceMul, Int32.reduceSub, az_ne10, az_ne20, az_ne30, Nat.zero_le]
            exact hK I10 c8 z8 ca cb h10 (by omega) (by omega)
        by_cases hc : (fdo 18 ca 4 0 0 s).1 < 0
        · have hc' : (0 ≤ (fdo 18 ca 4 0 0 s).1) = False := by rw [bz_nlt]; simp [hc]
          rw [if_pos hc] at hcb
          simp (maxDischargeDepth := 7) only [s98_190, s98_192, s98_194, s98_197, s98_198, s98_200, s98_202, s98_204, s98_207, s98_208, az_ex, az_bk0, az_bk1, az_bkx, az_cat0, az_cati, az_catr, az_catl, az_vi, az_vr, az_bo0, az_bo1, az_boi, true_and, and_true, if_true, if_false, ne_eq, not_true_eq_false, not_false_eq_true, List.set_cons_zero, List.set_cons_succ, Nat.reduceAdd, Nat.reduceLeDiff, Nat.reduceEqDiff, ↓reduceIte, reduceCtorEq, Nat.reduceSub, Nat.reduceMul, Int32.reduceLT, Int32.reduceLE, Int32.reduceAdd, Int32.reduceMul, Int32.reduceSub, az_ne10, az_ne20, az_ne30, Nat.zero_le, az_q0_1, az_q0_2, az_q0_3, az_q0_4, az_q0_5, az_q0_6, az_q0_7, az_q0_8, az_q1_0, az_q1_2, az_q1_3, az_q1_4, az_q1_5, az_q1_6, az_q1_7, az_q1_8, az_q2_0, az_q2_1, az_q2_3, az_q2_4, az_q2_5, az_q2_6, az_q2_7, az_q2_8, az_q3_0, az_q3_1, az_q3_2, az_q3_4, az_q3_5, az_q3_6, az_q3_7, az_q3_8, az_q4_0, az_q4_1, az_q4_2, az_q4_3, az_q4_5, az_q4_6, az_q4_7, az_q4_8, az_q5_0, az_q5_1, az_q5_2, az_q5_3, az_q5_4, az_q5_6, az_q5_7, az_q5_8, az_q6_0, az_q6_1, az_q6_2, az_q6_3, az_q6_4, az_q6_5, az_q6_7, az_q6_8, az_q7_0, az_q7_1, az_q7_2, az_q7_3, az_q7_4, az_q7_5, az_q7_6, az_q7_8, az_q8_0, az_q8_1, az_q8_2, az_q8_3, az_q8_4, az_q8_5, az_q8_6, az_q8_7, az_z10, az_z60, az_z100, az_z1000, az_z1001, az_z10000, hc']
          subst hcb
          exact t213
        · have hc' : (0 ≤ (fdo 18 ca 4 0 0 s).1) = True := by rw [bz_nlt]; simp [hc]
          rw [if_neg hc] at hcb
          simp (maxDischargeDepth := 7) only [s98_190, s98_192, s98_194, s98_197, s98_198, s98_200, s98_202, s98_204, s98_207, s98_208, s98_211, az_ex, az_bk0, az_bk1, az_bkx, az_cat0, az_cati, az_catr, az_catl, az_vi, az_vr, az_bo0, az_bo1, az_boi, true_and, and_true, if_true, if_false, ne_eq, not_true_eq_false, not_false_eq_true, List.set_cons_zero, List.set_cons_succ, Nat.reduceAdd, Nat.reduceLeDiff, Nat.reduceEqDiff, ↓reduceIte, reduceCtorEq, Nat.reduceSub, Nat.reduceMul, Int32.reduceLT, Int32.reduceLE, Int32.reduceAdd, Int32.reduceMul, Int32.reduceSub, az_ne10, az_ne20, az_ne30, Nat.zero_le, az_q0_1, az_q0_2, az_q0_3, az_q0_4, az_q0_5, az_q0_6, az_q0_7, az_q0_8, az_q1_0, az_q1_2, az_q1_3, az_q1_4, az_q1_5, az_q1_6, az_q1_7, az_q1_8, az_q2_0, az_q2_1, az_q2_3, az_q2_4, az_q2_5, az_q2_6, az_q2_7, az_q2_8, az_q3_0, az_q3_1, az_q3_2, az_q3_4, az_q3_5, az_q3_6, az_q3_7, az_q3_8, az_q4_0, az_q4_1, az_q4_2, az_q4_3, az_q4_5, az_q4_6, az_q4_7, az_q4_8, az_q5_0, az_q5_1, az_q5_2, az_q5_3, az_q5_4, az_q5_6, az_q5_7, az_q5_8, az_q6_0, az_q6_1, az_q6_2, az_q6_3, az_q6_4, az_q6_5, az_q6_7, az_q6_8, az_q7_0, az_q7_1, az_q7_2, az_q7_3, az_q7_4, az_q7_5, az_q7_6, az_q7_8, az_q8_0, az_q8_1, az_q8_2, az_q8_3, az_q8_4, az_q8_5, az_q8_6, az_q8_7, az_z10, az_z60, az_z100, az_z1000, az_z1001, az_z10000, hc']
          subst hcb
          exact t213
      by_cases hc : (fdo 18 ca 4 0 0 s).1 < 0
      · have hc' : (0 ≤ (fdo 18 ca 4 0 0 s).1) = False := by rw [bz_nlt]; simp [hc]
        rw [if_pos hc] at hcb
        simp (maxDischargeDepth := 7) only [s98_167, s98_169, s98_170, s98_172, s98_174, s98_176, s98_179, s98_180, s98_183, az_ex, az_bk0, az_bk1, az_bkx, az_cat0, az_cati, az_catr, az_catl, az_vi, az_vr, az_bo0, az_bo1, az_boi, true_and, and_true, if_true, if_false, ne_eq, not_true_eq_false, not_false_eq_true, List.set_cons_zero, List.set_cons_succ, Nat.reduceAdd, Nat.reduceLeDiff, Nat.reduceEqDiff, ↓reduceIte, reduceCtorEq, Nat.reduceSub, Nat.reduceMul, Int32.reduceLT, Int32.reduceLE, Int32.reduceAdd, Int32.reduceMul, Int32.reduceSub, az_ne10, az_ne20, az_ne30, Nat.zero_le, az_q0_1, az_q0_2, az_q0_3, az_q0_4, az_q0_5, az_q0_6, az_q0_7, az_q0_8, az_q1_0, az_q1_2, az_q1_3, az_q1_4, az_q1_5, az_q1_6, az_q1_7, az_q1_8, az_q2_0, az_q2_1, az_q2_3, az_q2_4, az_q2_5, az_q2_6, az_q2_7, az_q2_8, az_q3_0, az_q3_1, az_q3_2, az_q3_4, az_q3_5, az_q3_6, az_q3_7, az_q3_8, az_q4_0, az_q4_1, az_q4_2, az_q4_3, az_q4_5, az_q4_6, az_q4_7, az_q4_8, az_q5_0, az_q5_1, az_q5_2, az_q5_3, az_q5_4, az_q5_6, az_q5_7, az_q5_8, az_q6_0, az_q6_1, az_q6_2, az_q6_3, az_q6_4, az_q6_5, az_q6_7, az_q6_8, az_q7_0, az_q7_1, az_q7_2, az_q7_3, az_q7_4, az_q7_5, az_q7_6, az_q7_8, az_q8_0, az_q8_1, az_q8_2, az_q8_3, az_q8_4, az_q8_5, az_q8_6, az_q8_7, az_z10, az_z60, az_z100, az_z1000, az_z1001, az_z10000, hc']
        subst hcb
        exact t187
      · have hc' : (0 ≤ (fdo 18 ca 4 0 0 s).1) = True := by rw [bz_nlt]; simp [hc]
        rw [if_neg hc] at hcb
        simp (maxDischargeDepth := 7) only [s98_167, s98_169, s98_170, s98_172, s98_174, s98_176, s98_179, s98_180, s98_183, az_ex, az_bk0, az_bk1, az_bkx, az_cat0, az_cati, az_catr, az_catl, az_vi, az_vr, az_bo0, az_bo1, az_boi, true_and, and_true, if_true, if_false, ne_eq, not_true_eq_false, not_false_eq_true, List.set_cons_zero, List.set_cons_succ, Nat.reduceAdd, Nat.reduceLeDiff, Nat.reduceEqDiff, ↓reduceIte, reduceCtorEq, Nat.reduceSub, Nat.reduceMul, Int32.reduceLT, Int32.reduceLE, Int32.reduceAdd, Int32.reduceMul, Int32.reduceSub, az_ne10, az_ne20, az_ne30, Nat.zero_le, az_q0_1, az_q0_2, az_q0_3, az_q0_4, az_q0_5, az_q0_6, az_q0_7, az_q0_8, az_q1_0, az_q1_2, az_q1_3, az_q1_4, az_q1_5, az_q1_6, az_q1_7, az_q1_8, az_q2_0, az_q2_1, az_q2_3, az_q2_4, az_q2_5, az_q2_6, az_q2_7, az_q2_8, az_q3_0, az_q3_1, az_q3_2, az_q3_4, az_q3_5, az_q3_6, az_q3_7, az_q3_8, az_q4_0, az_q4_1, az_q4_2, az_q4_3, az_q4_5, az_q4_6, az_q4_7, az_q4_8, az_q5_0, az_q5_1, az_q5_2, az_q5_3, az_q5_4, az_q5_6, az_q5_7, az_q5_8, az_q6_0, az_q6_1, az_q6_2, az_q6_3, az_q6_4, az_q6_5, az_q6_7, az_q6_8, az_q7_0, az_q7_1, az_q7_2, az_q7_3, az_q7_4, az_q7_5, az_q7_6, az_q7_8, az_q8_0, az_q8_1, az_q8_2, az_q8_3, az_q8_4, az_q8_5, az_q8_6, az_q8_7, az_z10, az_z60, az_z100, az_z1000, az_z1001, az_z10000, hc']
        subst hcb
        exact t187
    by_cases hw0 : WHY = 0
    · have v1 := eq_false (w0 hw0)
      subst hw0
      simp (maxDischargeDepth := 7) only [s98_117, s98_119, s98_121, s98_124, s98_126, s98_129, s98_131, s98_133, s98_136, s98_138, s98_139, s98_142, s98_144, s98_146, s98_149, s98_150, s98_153, s98_154, az_ex, az_bk0, az_bk1, az_bkx, az_cat0, az_cati, az_catr, az_catl, az_vi, az_vr, az_bo0, az_bo1, az_boi, true_and, and_true, if_true, if_false, ne_eq, not_true_eq_false, not_false_eq_true, List.set_cons_zero, List.set_cons_succ, Nat.reduceAdd, Nat.reduceLeDiff, Nat.reduceEqDiff, ↓reduceIte, reduceCtorEq, Nat.reduceSub, Nat.reduceMul, Int32.reduceLT, Int32.reduceLE, Int32.reduceAdd, Int32.reduceMul, Int32.reduceSub, az_ne10, az_ne20, az_ne30, Nat.zero_le, az_q0_1, az_q0_2, az_q0_3, az_q0_4, az_q0_5, az_q0_6, az_q0_7, az_q0_8, az_q1_0, az_q1_2, az_q1_3, az_q1_4, az_q1_5, az_q1_6, az_q1_7, az_q1_8, az_q2_0, az_q2_1, az_q2_3, az_q2_4, az_q2_5, az_q2_6, az_q2_7, az_q2_8, az_q3_0, az_q3_1, az_q3_2, az_q3_4, az_q3_5, az_q3_6, az_q3_7, az_q3_8, az_q4_0, az_q4_1, az_q4_2, az_q4_3, az_q4_5, az_q4_6, az_q4_7, az_q4_8, az_q5_0, az_q5_1, az_q5_2, az_q5_3, az_q5_4, az_q5_6, az_q5_7, az_q5_8, az_q6_0, az_q6_1, az_q6_2, az_q6_3, az_q6_4, az_q6_5, az_q6_7, az_q6_8, az_q7_0, az_q7_1, az_q7_2, az_q7_3, az_q7_4, az_q7_5, az_q7_6, az_q7_8, az_q8_0, az_q8_1, az_q8_2, az_q8_3, az_q8_4, az_q8_5, az_q8_6, az_q8_7, az_z10, az_z60, az_z100, az_z1000, az_z1001, az_z10000, v1]
      exact t156
    · have hw0' := eq_false hw0
      by_cases hw4 : WHY = 4
      · have v1 : (nI (lowN s p) ≤ BAL) = False := by rw [bz_nlt]; simp [w4 hw4]
        subst hw4
        simp (maxDischargeDepth := 7) only [s98_117, s98_119, s98_121, s98_124, s98_126, s98_129, s98_131, s98_133, s98_136, s98_138, s98_139, s98_142, s98_144, s98_146, s98_149, s98_150, s98_153, s98_154, az_ex, az_bk0, az_bk1, az_bkx, az_cat0, az_cati, az_catr, az_catl, az_vi, az_vr, az_bo0, az_bo1, az_boi, true_and, and_true, if_true, if_false, ne_eq, not_true_eq_false, not_false_eq_true, List.set_cons_zero, List.set_cons_succ, Nat.reduceAdd, Nat.reduceLeDiff, Nat.reduceEqDiff, ↓reduceIte, reduceCtorEq, Nat.reduceSub, Nat.reduceMul, Int32.reduceLT, Int32.reduceLE, Int32.reduceAdd, Int32.reduceMul, Int32.reduceSub, az_ne10, az_ne20, az_ne30, Nat.zero_le, az_q0_1, az_q0_2, az_q0_3, az_q0_4, az_q0_5, az_q0_6, az_q0_7, az_q0_8, az_q1_0, az_q1_2, az_q1_3, az_q1_4, az_q1_5, az_q1_6, az_q1_7, az_q1_8, az_q2_0, az_q2_1, az_q2_3, az_q2_4, az_q2_5, az_q2_6, az_q2_7, az_q2_8, az_q3_0, az_q3_1, az_q3_2, az_q3_4, az_q3_5, az_q3_6, az_q3_7, az_q3_8, az_q4_0, az_q4_1, az_q4_2, az_q4_3, az_q4_5, az_q4_6, az_q4_7, az_q4_8, az_q5_0, az_q5_1, az_q5_2, az_q5_3, az_q5_4, az_q5_6, az_q5_7, az_q5_8, az_q6_0, az_q6_1, az_q6_2, az_q6_3, az_q6_4, az_q6_5, az_q6_7, az_q6_8, az_q7_0, az_q7_1, az_q7_2, az_q7_3, az_q7_4, az_q7_5, az_q7_6, az_q7_8, az_q8_0, az_q8_1, az_q8_2, az_q8_3, az_q8_4, az_q8_5, az_q8_6, az_q8_7, az_z10, az_z60, az_z100, az_z1000, az_z1001, az_z10000, v1]
        exact t156
      · have hw4' := eq_false hw4
        simp (maxDischargeDepth := 7) only [s98_117, s98_119, s98_121, s98_124, s98_126, s98_129, s98_131, s98_133, s98_136, s98_138, s98_139, s98_142, s98_144, s98_146, s98_149, s98_150, s98_153, s98_154, az_ex, az_bk0, az_bk1, az_bkx, az_cat0, az_cati, az_catr, az_catl, az_vi, az_vr, az_bo0, az_bo1, az_boi, true_and, and_true, if_true, if_false, ne_eq, not_true_eq_false, not_false_eq_true, List.set_cons_zero, List.set_cons_succ, Nat.reduceAdd, Nat.reduceLeDiff, Nat.reduceEqDiff, ↓reduceIte, reduceCtorEq, Nat.reduceSub, Nat.reduceMul, Int32.reduceLT, Int32.reduceLE, Int32.reduceAdd, Int32.reduceMul, Int32.reduceSub, az_ne10, az_ne20, az_ne30, Nat.zero_le, az_q0_1, az_q0_2, az_q0_3, az_q0_4, az_q0_5, az_q0_6, az_q0_7, az_q0_8, az_q1_0, az_q1_2, az_q1_3, az_q1_4, az_q1_5, az_q1_6, az_q1_7, az_q1_8, az_q2_0, az_q2_1, az_q2_3, az_q2_4, az_q2_5, az_q2_6, az_q2_7, az_q2_8, az_q3_0, az_q3_1, az_q3_2, az_q3_4, az_q3_5, az_q3_6, az_q3_7, az_q3_8, az_q4_0, az_q4_1, az_q4_2, az_q4_3, az_q4_5, az_q4_6, az_q4_7, az_q4_8, az_q5_0, az_q5_1, az_q5_2, az_q5_3, az_q5_4, az_q5_6, az_q5_7, az_q5_8, az_q6_0, az_q6_1, az_q6_2, az_q6_3, az_q6_4, az_q6_5, az_q6_7, az_q6_8, az_q7_0, az_q7_1, az_q7_2, az_q7_3, az_q7_4, az_q7_5, az_q7_6, az_q7_8, az_q8_0, az_q8_1, az_q8_2, az_q8_3, az_q8_4, az_q8_5, az_q8_6, az_q8_7, az_z10, az_z60, az_z100, az_z1000, az_z1001, az_z10000, hw0', hw4']
        exact t156
  by_cases hz : lowN s p = p
  · have g3' : (nI (fewN s p) = 0) = True := by rw [g3]; simp [hz]
    have g4' : (nI (lowN s p) = nI p) = True := by rw [g4]; simp [hz]
    simp (maxDischargeDepth := 7) only [s98_22, s98_24, s98_26, s98_29, s98_31, s98_32, s98_35, s98_37, s98_40, s98_41, s98_44, s98_45, s98_47, s98_48, s98_51, s98_52, s98_55, s98_56, s98_59, s98_61, s98_63, s98_66, s98_68, s98_69, s98_70, cc48, az_ex, az_bk0, az_bk1, az_bkx, az_cat0, az_cati, az_catr, az_catl, az_vi, az_vr, az_bo0, az_bo1, az_boi, true_and, and_true, if_true, if_false, ne_eq, not_true_eq_false, not_false_eq_true, List.set_cons_zero, List.set_cons_succ, Nat.reduceAdd, Nat.reduceLeDiff, Nat.reduceEqDiff, ↓reduceIte, reduceCtorEq, Nat.reduceSub, Nat.reduceMul, Int32.reduceLT, Int32.reduceLE, Int32.reduceAdd, Int32.reduceMul, Int32.reduceSub, az_ne10, az_ne20, az_ne30, Nat.zero_le, az_q0_1, az_q0_2, az_q0_3, az_q0_4, az_q0_5, az_q0_6, az_q0_7, az_q0_8, az_q1_0, az_q1_2, az_q1_3, az_q1_4, az_q1_5, az_q1_6, az_q1_7, az_q1_8, az_q2_0, az_q2_1, az_q2_3, az_q2_4, az_q2_5, az_q2_6, az_q2_7, az_q2_8, az_q3_0, az_q3_1, az_q3_2, az_q3_4, az_q3_5, az_q3_6, az_q3_7, az_q3_8, az_q4_0, az_q4_1, az_q4_2, az_q4_3, az_q4_5, az_q4_6, az_q4_7, az_q4_8, az_q5_0, az_q5_1, az_q5_2, az_q5_3, az_q5_4, az_q5_6, az_q5_7, az_q5_8, az_q6_0, az_q6_1, az_q6_2, az_q6_3, az_q6_4, az_q6_5, az_q6_7, az_q6_8, az_q7_0, az_q7_1, az_q7_2, az_q7_3, az_q7_4, az_q7_5, az_q7_6, az_q7_8, az_q8_0, az_q8_1, az_q8_2, az_q8_3, az_q8_4, az_q8_5, az_q8_6, az_q8_7, az_z10, az_z60, az_z100, az_z1000, az_z1001, az_z10000, g1, g2, g3', g4', g5, cc48]
    refine Q48 (d := d + 2) h2 H hpr fun I3 h3 => ?_
    rw [hpc]
    simp (maxDischargeDepth := 7) only [s98_73, s98_76, s98_77, az_ex, az_bk0, az_bk1, az_bkx, az_cat0, az_cati, az_catr, az_catl, az_vi, az_vr, az_bo0, az_bo1, az_boi, true_and, and_true, if_true, if_false, ne_eq, not_true_eq_false, not_false_eq_true, List.set_cons_zero, List.set_cons_succ, Nat.reduceAdd, Nat.reduceLeDiff, Nat.reduceEqDiff, ↓reduceIte, reduceCtorEq, Nat.reduceSub, Nat.reduceMul, Int32.reduceLT, Int32.reduceLE, Int32.reduceAdd, Int32.reduceMul, Int32.reduceSub, az_ne10, az_ne20, az_ne30, Nat.zero_le]
    exact tail I3 h3
  · have g3' : (nI (fewN s p) = 0) = False := by rw [g3]; simp [hz]
    have g4' : (nI (lowN s p) = nI p) = False := by rw [g4]; simp [hz]
    simp (maxDischargeDepth := 7) only [s98_22, s98_24, s98_26, s98_29, s98_31, s98_32, s98_35, s98_37, s98_40, s98_41, s98_44, s98_45, s98_47, s98_48, s98_51, s98_52, s98_55, s98_56, s98_59, s98_61, s98_63, s98_66, s98_68, s98_69, s98_70, cc48, az_ex, az_bk0, az_bk1, az_bkx, az_cat0, az_cati, az_catr, az_catl, az_vi, az_vr, az_bo0, az_bo1, az_boi, true_and, and_true, if_true, if_false, ne_eq, not_true_eq_false, not_false_eq_true, List.set_cons_zero, List.set_cons_succ, Nat.reduceAdd, Nat.reduceLeDiff, Nat.reduceEqDiff, ↓reduceIte, reduceCtorEq, Nat.reduceSub, Nat.reduceMul, Int32.reduceLT, Int32.reduceLE, Int32.reduceAdd, Int32.reduceMul, Int32.reduceSub, az_ne10, az_ne20, az_ne30, Nat.zero_le, az_q0_1, az_q0_2, az_q0_3, az_q0_4, az_q0_5, az_q0_6, az_q0_7, az_q0_8, az_q1_0, az_q1_2, az_q1_3, az_q1_4, az_q1_5, az_q1_6, az_q1_7, az_q1_8, az_q2_0, az_q2_1, az_q2_3, az_q2_4, az_q2_5, az_q2_6, az_q2_7, az_q2_8, az_q3_0, az_q3_1, az_q3_2, az_q3_4, az_q3_5, az_q3_6, az_q3_7, az_q3_8, az_q4_0, az_q4_1, az_q4_2, az_q4_3, az_q4_5, az_q4_6, az_q4_7, az_q4_8, az_q5_0, az_q5_1, az_q5_2, az_q5_3, az_q5_4, az_q5_6, az_q5_7, az_q5_8, az_q6_0, az_q6_1, az_q6_2, az_q6_3, az_q6_4, az_q6_5, az_q6_7, az_q6_8, az_q7_0, az_q7_1, az_q7_2, az_q7_3, az_q7_4, az_q7_5, az_q7_6, az_q7_8, az_q8_0, az_q8_1, az_q8_2, az_q8_3, az_q8_4, az_q8_5, az_q8_6, az_q8_7, az_z10, az_z60, az_z100, az_z1000, az_z1001, az_z10000, g1, g2, g3', g4', g5, cc48]
    refine Q48 (d := d + 2) h2 H hpr fun I3 h3 => ?_
    rw [hpc]
    simp (maxDischargeDepth := 7) only [s98_73, s98_76, s98_77, az_ex, az_bk0, az_bk1, az_bkx, az_cat0, az_cati, az_catr, az_catl, az_vi, az_vr, az_bo0, az_bo1, az_boi, true_and, and_true, if_true, if_false, ne_eq, not_true_eq_false, not_false_eq_true, List.set_cons_zero, List.set_cons_succ, Nat.reduceAdd, Nat.reduceLeDiff, Nat.reduceEqDiff, ↓reduceIte, reduceCtorEq, Nat.reduceSub, Nat.reduceMul, Int32.reduceLT, Int32.reduceLE, Int32.reduceAdd, Int32.reduceMul, Int32.reduceSub, az_ne10, az_ne20, az_ne30, Nat.zero_le]
    exact tail I3 h3
end
