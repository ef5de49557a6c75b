/-! a month comes: lots end, fees are taken (the class) -/
theorem rC_r {I I' : Nat → Nat → Int32} {s : (Nat → Int32) × (Nat → Int32) × (Nat → Int32) × (Nat → Int32)} (h : rC I I' s) {a : Nat} (ha : (a ≠ 31 ∧ a ≠ 15 ∧ a ≠ 16 ∧ a ≠ 17) ∧ a ≠ 10 ∧ a ≠ 11 ∧ a ≠ 34 ∧ a ≠ 35) : I' a = I a := h.2.2.2.2 a ha.1.1 ha.1.2.1 ha.1.2.2.1 ha.1.2.2.2 ha.2.1 ha.2.2.1 ha.2.2.2.1 ha.2.2.2.2
section
variable {xs : az_X} {d : Nat} {nl c z : Nat} {I I' : Nat → Nat → Int32} {J : Nat → Nat → Int64} {K : az_O → Prop}
theorem c80 {cd : Nat} {now : Int32} {s : (Nat → Int32) × (Nat → Int32) × (Nat → Int32) × (Nat → Int32)} (hR : rC I I' s) (hn : nl ≤ 60) (h7 : I 28 7 = nI nl) (hnow : I 0 6 = now) (hcd : cd < 12) (h19 : az_in (I 19 cd) 4 = true) (h20 : az_in (I 20 cd) 3 = true) (hK : ∀ I'', rC I I'' (fd (pEs I now cd) nl 0 s) → K (0, none, (az_S, I'', J, c, z))) : az_C xs (d + 2) 80 [.ref 0, .int (nI cd)] (az_S, I', J, c, z) K := by
  have key := az_loopB (n := nl) (h := pEs I now cd) (Inv := fun _ _ => True) (W := fun j s => ∀ I', rC I I' s → az_W xs (d + 1) 80 2 [some (.ref 0), some (.int (nI cd)), some (.int (nI j))] [] (az_S, I', J, c, z) K) (fun _ _ _ _ => trivial) ?_ nl 0 s (Nat.zero_add _) trivial ?_
  · simp (maxDischargeDepth := 7) only [C80, th80, s80_0, s80_1, s80_3, s80_4, s80_7, s80_10, s80_13, s80_14, s80_17, s80_20, s80_21, s80_22, s80_23, s80_26, s80_27, s80_30, s80_33, s80_34, s80_35, s80_36, s80_39, s80_42, s80_43, s80_44, s80_45, s80_48, s80_51, s80_54, g0_3, g28_7, g28_0, A29, g28_4, A33, g0_6, cc81, az_ex, az_bk0, az_bk1, az_bkx, az_cat0, az_cati, az_catr, az_catl, az_vi, az_vr, az_bo0, az_bo1, az_boi, true_and, and_true, if_true, if_false, ne_eq, not_true_eq_false, not_false_eq_true, List.set_cons_zero, List.set_cons_succ, Nat.reduceAdd, Nat.reduceLeDiff, Nat.reduceEqDiff, ↓reduceIte, reduceCtorEq, Nat.reduceSub, Nat.reduceMul, Int32.reduceLT, Int32.reduceLE, Int32.reduceAdd, Int32.reduceMul, Int32.reduceSub, az_ne10, az_ne20, az_ne30, Nat.zero_le]
    exact key I' hR
  · intro j s hj _ hw I' hR
    have f1 : az_in (nI j) 60 = true := by rw [az_in_nI (by omega)]; simp; omega
    have f2 : (nI nl ≤ nI j) = False := by rw [bz_le (by omega) (by omega)]; simp; omega
    have e28 : I' 28 = I 28 := rC_r hR (by decide)
    have e0 : I' 0 = I 0 := rC_r hR (by decide)
    have e29 : I' 29 = I 29 := rC_r hR (by decide)
    have e33 : I' 33 = I 33 := rC_r hR (by decide)
    refine s80_2.mpr ?_
    unfold pEs at hw
    by_cases hh : I 29 j = nI cd
    · by_cases hg : I 33 j = now
      · simp only [hh, hg, if_true] at hw
        simp (maxDischargeDepth := 7) only [C80, th80, s80_0, s80_1, s80_3, s80_4, s80_7, s80_10, s80_13, s80_14, s80_17, s80_20, s80_21, s80_22, s80_23, s80_26, s80_27, s80_30, s80_33, s80_34, s80_35, s80_36, s80_39, s80_42, s80_43, s80_44, s80_45, s80_48, s80_51, s80_54, g0_3, g28_7, g28_0, A29, g28_4, A33, g0_6, cc81, az_ex, az_bk0, az_bk1, az_bkx, az_cat0, az_cati, az_catr, az_catl, az_vi, az_vr, az_bo0, az_bo1, az_boi, true_and, and_true, if_true, if_false, ne_eq, not_true_eq_false, not_false_eq_true, List.set_cons_zero, List.set_cons_succ, Nat.reduceAdd, Nat.reduceLeDiff, Nat.reduceEqDiff, ↓reduceIte, reduceCtorEq, Nat.reduceSub, Nat.reduceMul, Int32.reduceLT, Int32.reduceLE, Int32.reduceAdd, Int32.reduceMul, Int32.reduceSub, az_ne10, az_ne20, az_ne30, Nat.zero_le, e28, e0, e29, e33, h7, hnow, f1, f2, hh, hg, nI_clamp (show j < 2 ^ 31 by omega)]
        refine c81 hR hcd (show j < 60 by omega) h19 h20 ?_
        intro I'' hR2
        simp (maxDischargeDepth := 7) only [C80, th80, s80_0, s80_1, s80_3, s80_4, s80_7, s80_10, s80_13, s80_14, s80_17, s80_20, s80_21, s80_22, s80_23, s80_26, s80_27, s80_30, s80_33, s80_34, s80_35, s80_36, s80_39, s80_42, s80_43, s80_44, s80_45, s80_48, s80_51, s80_54, g0_3, g28_7, g28_0, A29, g28_4, A33, g0_6, cc81, az_ex, az_bk0, az_bk1, az_bkx, az_cat0, az_cati, az_catr, az_catl, az_vi, az_vr, az_bo0, az_bo1, az_boi, true_and, and_true, if_true, if_false, ne_eq, not_true_eq_false, not_false_eq_true, List.set_cons_zero, List.set_cons_succ, Nat.reduceAdd, Nat.reduceLeDiff, Nat.reduceEqDiff, ↓reduceIte, reduceCtorEq, Nat.reduceSub, Nat.reduceMul, Int32.reduceLT, Int32.reduceLE, Int32.reduceAdd, Int32.reduceMul, Int32.reduceSub, az_ne10, az_ne20, az_ne30, Nat.zero_le, nI_1]
        exact hw _ hR2
      · simp only [hh, hg, if_true, if_false] at hw
        simp (maxDischargeDepth := 7) only [C80, th80, s80_0, s80_1, s80_3, s80_4, s80_7, s80_10, s80_13, s80_14, s80_17, s80_20, s80_21, s80_22, s80_23, s80_26, s80_27, s80_30, s80_33, s80_34, s80_35, s80_36, s80_39, s80_42, s80_43, s80_44, s80_45, s80_48, s80_51, s80_54, g0_3, g28_7, g28_0, A29, g28_4, A33, g0_6, cc81, az_ex, az_bk0, az_bk1, az_bkx, az_cat0, az_cati, az_catr, az_catl, az_vi, az_vr, az_bo0, az_bo1, az_boi, true_and, and_true, if_true, if_false, ne_eq, not_true_eq_false, not_false_eq_true, List.set_cons_zero, List.set_cons_succ, Nat.reduceAdd, Nat.reduceLeDiff, Nat.reduceEqDiff, ↓reduceIte, reduceCtorEq, Nat.reduceSub, Nat.reduceMul, Int32.reduceLT, Int32.reduceLE, Int32.reduceAdd, Int32.reduceMul, Int32.reduceSub, az_ne10, az_ne20, az_ne30, Nat.zero_le, e28, e0, e29, e33, h7, hnow, f1, f2, hh, hg, nI_1, nI_clamp (show j < 2 ^ 31 by omega)]
        exact hw _ hR
    · simp only [hh, if_false] at hw
      simp (maxDischargeDepth := 7) only [C80, th80, s80_0, s80_1, s80_3, s80_4, s80_7, s80_10, s80_13, s80_14, s80_17, s80_20, s80_21, s80_22, s80_23, s80_26, s80_27, s80_30, s80_33, s80_34, s80_35, s80_36, s80_39, s80_42, s80_43, s80_44, s80_45, s80_48, s80_51, s80_54, g0_3, g28_7, g28_0, A29, g28_4, A33, g0_6, cc81, az_ex, az_bk0, az_bk1, az_bkx, az_cat0, az_cati, az_catr, az_catl, az_vi, az_vr, az_bo0, az_bo1, az_boi, true_and, and_true, if_true, if_false, ne_eq, not_true_eq_false, not_false_eq_true, List.set_cons_zero, List.set_cons_succ, Nat.reduceAdd, Nat.reduceLeDiff, Nat.reduceEqDiff, ↓reduceIte, reduceCtorEq, Nat.reduceSub, Nat.reduceMul, Int32.reduceLT, Int32.reduceLE, Int32.reduceAdd, Int32.reduceMul, Int32.reduceSub, az_ne10, az_ne20, az_ne30, Nat.zero_le, e28, e0, e29, e33, h7, hnow, f1, f2, hh, nI_1, nI_clamp (show j < 2 ^ 31 by omega)]
      exact hw _ hR
  · intro I' hR
    have f3 : (nI nl ≤ nI nl) = True := by rw [bz_le (by omega) (by omega)]; simp
    have e28 : I' 28 = I 28 := rC_r hR (by decide)
    refine s80_2.mpr ?_
    simp (maxDischargeDepth := 7) only [C80, th80, s80_0, s80_1, s80_3, s80_4, s80_7, s80_10, s80_13, s80_14, s80_17, s80_20, s80_21, s80_22, s80_23, s80_26, s80_27, s80_30, s80_33, s80_34, s80_35, s80_36, s80_39, s80_42, s80_43, s80_44, s80_45, s80_48, s80_51, s80_54, g0_3, g28_7, g28_0, A29, g28_4, A33, g0_6, cc81, az_ex, az_bk0, az_bk1, az_bkx, az_cat0, az_cati, az_catr, az_catl, az_vi, az_vr, az_bo0, az_bo1, az_boi, true_and, and_true, if_true, if_false, ne_eq, not_true_eq_false, not_false_eq_true, List.set_cons_zero, List.set_cons_succ, Nat.reduceAdd, Nat.reduceLeDiff, Nat.reduceEqDiff, ↓reduceIte, reduceCtorEq, Nat.reduceSub, Nat.reduceMul, Int32.reduceLT, Int32.reduceLE, Int32.reduceAdd, Int32.reduceMul, Int32.reduceSub, az_ne10, az_ne20, az_ne30, Nat.zero_le, e28, h7, f3]
    exact hK _ hR
theorem c82 {cd t : Nat} {now : Int32} {s : (Nat → Int32) × (Nat → Int32) × (Nat → Int32) × (Nat → Int32)} (hR : rC I I' s) (hn : nl ≤ 60) (ht : t < 600) (h7 : I 28 7 = nI nl) (hnow : I 0 6 = now) (hE : ∀ j, j < nl → az_eb (I 33 j)) (hcd : cd < 12) (h19 : az_in (I 19 cd) 4 = true) (h22 : 0 ≤ (I 22 cd).toInt) (hb : ∀ j, j < nl → 0 ≤ (s.1 j).toInt ∧ (s.1 j).toInt ≤ ((1000 * (t + 1) : Nat) : Int)) (hK : ∀ I'', rC I I'' (pFe I now nl cd s) → K (0, none, (az_S, I'', J, c, z))) : az_C xs (d + 5) 82 [.ref 0, .int (nI cd)] (az_S, I', J, c, z) K := by
  have f2 : az_in (nI cd) 12 = true := by rw [az_in_nI (by omega)]; simp; omega
  have e28 : I' 28 = I 28 := rC_r hR (by decide)
  have e0 : I' 0 = I 0 := rC_r hR (by decide)
  have e29 : I' 29 = I 29 := rC_r hR (by decide)
  have e30 : I' 30 = I 30 := rC_r hR (by decide)
  have e33 : I' 33 = I 33 := rC_r hR (by decide)
  have e25 : I' 25 = I 25 := rC_r hR (by decide)
  have e22 : I' 22 = I 22 := rC_r hR (by decide)
  have e19 : I' 19 = I 19 := rC_r hR (by decide)
  obtain ⟨r1, r2, r3, r4, r5⟩ := hR
  have n12 : ((12 : Int32)) = 12 := rfl
  unfold pFe at hK
  by_cases h12 : now - I 25 cd < 12
  · rw [if_pos h12] at hK
    simp (maxDischargeDepth := 7) only [C82, th82, s82_0, s82_1, s82_4, s82_5, s82_8, s82_11, s82_12, s82_13, s82_14, s82_16, s82_19, s82_20, s82_23, s82_26, s82_27, s82_28, s82_29, s82_32, s82_33, s82_36, s82_39, s82_40, s82_41, s82_44, s82_45, s82_46, s82_49, s82_50, s82_53, s82_56, s82_57, s82_60, s82_63, s82_64, s82_65, s82_66, s82_67, s82_68, s82_69, s82_70, g0_6, g0_2, g18_6, A25, g18_3, A22, g0_3, cc22, cc28, g0_1, g5_4, A10, g18_0, A19, az_ex, az_bk0, az_bk1, az_bkx, az_cat0, az_cati, az_catr, az_catl, az_vi, az_vr, az_bo0, az_bo1, az_boi, true_and, and_true, if_true, if_false, ne_eq, not_true_eq_false, not_false_eq_true, List.set_cons_zero, List.set_cons_succ, Nat.reduceAdd, Nat.reduceLeDiff, Nat.reduceEqDiff, ↓reduceIte, reduceCtorEq, Nat.reduceSub, Nat.reduceMul, Int32.reduceLT, Int32.reduceLE, Int32.reduceAdd, Int32.reduceMul, Int32.reduceSub, az_ne10, az_ne20, az_ne30, Nat.zero_le, e0, e25, hnow, f2, h12, nI_clamp (show cd < 2 ^ 31 by omega)]
    exact hK _ ⟨r1, r2, r3, r4, r5⟩
  · rw [if_neg h12] at hK
    obtain ⟨o1, o2⟩ := ordR_spec (lt := ltb (fun j => az_nv (I 33 j)) (I 30)) ltb_t ltb_tot (P := pOn (I 29) s.1 (nI cd)) (n := nl)
    have hB : nl * (1000 * (t + 1)) < 2 ^ 31 := by
      have : nl * (1000 * (t + 1)) ≤ 60 * (1000 * (t + 1)) := Nat.mul_le_mul_right _ hn
      omega
    have hsm := sml_ord (lt := ltb (fun j => az_nv (I 33 j)) (I 30)) (cd := I 29) (x := nI cd) hb hB
    have hnd : (ordR (ltb (fun j => az_nv (I 33 j)) (I 30)) (pOn (I 29) s.1 (nI cd)) nl).reverse.Nodup := nd_rev (srt_nodup (lt := ltb (fun j => az_nv (I 33 j)) (I 30)) ltb_ir o2)
    have hpos : ∀ x, x ∈ (ordR (ltb (fun j => az_nv (I 33 j)) (I 30)) (pOn (I 29) s.1 (nI cd)) nl).reverse → 0 ≤ (s.1 x).toInt := fun x hx => (hb x ((o1 x).mp (List.mem_reverse.mp hx)).1).1
    obtain ⟨m1, m2⟩ := tk_min (L := (ordR (ltb (fun j => az_nv (I 33 j)) (I 30)) (pOn (I 29) s.1 (nI cd)) nl).reverse) (g := s.1) (dr := fun _ => 0) (m := I 22 cd) hnd hpos h22 (hsm.trans sml_rev.symm)
    have q22 : ∀ K' : az_O → Prop, az_C xs (d + 4) 22 [.ref 28, .int (nI cd)] (az_S, I', J, c, z) K' ↔ K' (0, some (.int (fd (fbal (I 29) s.1 (nI cd)) nl 0 0)), (az_S, I', J, c, z)) := fun K' => by
      rw [c22 hn (by rw [e28]; exact h7), e29, r1]
    simp (maxDischargeDepth := 7) only [C82, th82, s82_0, s82_1, s82_4, s82_5, s82_8, s82_11, s82_12, s82_13, s82_14, s82_16, s82_19, s82_20, s82_23, s82_26, s82_27, s82_28, s82_29, s82_32, s82_33, s82_36, s82_39, s82_40, s82_41, s82_44, s82_45, s82_46, s82_49, s82_50, s82_53, s82_56, s82_57, s82_60, s82_63, s82_64, s82_65, s82_66, s82_67, s82_68, s82_69, s82_70, g0_6, g0_2, g18_6, A25, g18_3, A22, g0_3, cc22, cc28, g0_1, g5_4, A10, g18_0, A19, az_ex, az_bk0, az_bk1, az_bkx, az_cat0, az_cati, az_catr, az_catl, az_vi, az_vr, az_bo0, az_bo1, az_boi, true_and, and_true, if_true, if_false, ne_eq, not_true_eq_false, not_false_eq_true, List.set_cons_zero, List.set_cons_succ, Nat.reduceAdd, Nat.reduceLeDiff, Nat.reduceEqDiff, ↓reduceIte, reduceCtorEq, Nat.reduceSub, Nat.reduceMul, Int32.reduceLT, Int32.reduceLE, Int32.reduceAdd, Int32.reduceMul, Int32.reduceSub, az_ne10, az_ne20, az_ne30, Nat.zero_le, e0, e25, e22, hnow, f2, h12, q22, nI_clamp (show cd < 2 ^ 31 by omega)]
    refine c28 hn (by rw [e28]; exact h7) (by rw [e33]; exact hE) rfl ?_
    intro f
    rw [e33, e30, e29, r1]
    rw [(tk_dr (dr2 := fun _ => 0)).1, m1]
    obtain ⟨hc4, hch⟩ := az_in_k h19
    have h19' := h19
    simp (maxDischargeDepth := 7) only [C82, th82, s82_0, s82_1, s82_4, s82_5, s82_8, s82_11, s82_12, s82_13, s82_14, s82_16, s82_19, s82_20, s82_23, s82_26, s82_27, s82_28, s82_29, s82_32, s82_33, s82_36, s82_39, s82_40, s82_41, s82_44, s82_45, s82_46, s82_49, s82_50, s82_53, s82_56, s82_57, s82_60, s82_63, s82_64, s82_65, s82_66, s82_67, s82_68, s82_69, s82_70, g0_6, g0_2, g18_6, A25, g18_3, A22, g0_3, cc22, cc28, g0_1, g5_4, A10, g18_0, A19, az_ex, az_bk0, az_bk1, az_bkx, az_cat0, az_cati, az_catr, az_catl, az_vi, az_vr, az_bo0, az_bo1, az_boi, true_and, and_true, if_true, if_false, ne_eq, not_true_eq_false, not_false_eq_true, List.set_cons_zero, List.set_cons_succ, Nat.reduceAdd, Nat.reduceLeDiff, Nat.reduceEqDiff, ↓reduceIte, reduceCtorEq, Nat.reduceSub, Nat.reduceMul, Int32.reduceLT, Int32.reduceLE, Int32.reduceAdd, Int32.reduceMul, Int32.reduceSub, az_ne10, az_ne20, az_ne30, Nat.zero_le, tSe, e19, f2, h19', r3, nI_clamp (show cd < 2 ^ 31 by omega)]
    rw [m2]
    refine hK _ ⟨by simp [az_upe, tSe], ?_, ?_, by simp [az_upe, tSe, r4], ?_⟩
    · intro l hl c hc
      match l, hl with
      | 0, _ => simpa [az_upe, tSe] using r2 0 (by omega) c hc
      | 1, _ => simpa [az_upe, tSe] using r2 1 (by omega) c hc
      | 2, _ => simpa [az_upe, tSe] using r2 2 (by omega) c hc
    · simp [az_upe, tSe, r3]
    · intro a a1 a2 a3 a4 a5 a6 a7 a8
      rw [az_up_ne a5, tSe, if_neg a1, if_neg a8, if_neg a7]
      exact r5 a a1 a2 a3 a4 a5 a6 a7 a8
end
