/-! a month comes: the call -/
def pCd (A : Nat → Nat → Int32) (now : Int32) (nl cd : Nat) (s : (Nat → Int32) × (Nat → Int32) × (Nat → Int32) × (Nat → Int32)) : (Nat → Int32) × (Nat → Int32) × (Nat → Int32) × (Nat → Int32) := pFe A now nl cd (fd (pEs A now cd) nl 0 s)
theorem pEs_bd {A : Nat → Nat → Int32} {now : Int32} {nl cd : Nat} {B : Int} (hB : 0 ≤ B) {s : (Nat → Int32) × (Nat → Int32) × (Nat → Int32) × (Nat → Int32)} (h : ∀ j, j < nl → 0 ≤ (s.1 j).toInt ∧ (s.1 j).toInt ≤ B) : ∀ j, j < nl → 0 ≤ ((fd (pEs A now cd) nl 0 s).1 j).toInt ∧ ((fd (pEs A now cd) nl 0 s).1 j).toInt ≤ B := by
  refine fd_inv (n := nl) (h := pEs A now cd) (Inv := fun _ s => ∀ j, j < nl → 0 ≤ (s.1 j).toInt ∧ (s.1 j).toInt ≤ B) ?_ nl 0 s (Nat.zero_add _) h
  intro k s hk h j hj
  unfold pEs
  split
  · split
    · rw [pEd_or, upde]
      split
      · exact ⟨by decide, hB⟩
      · exact h j hj
    · exact h j hj
  · exact h j hj
theorem pFe_bd {A : Nat → Nat → Int32} {now : Int32} {nl cd : Nat} {B : Int} {s : (Nat → Int32) × (Nat → Int32) × (Nat → Int32) × (Nat → Int32)} (h22 : 0 ≤ (A 22 cd).toInt) (h : ∀ j, j < nl → 0 ≤ (s.1 j).toInt ∧ (s.1 j).toInt ≤ B) : ∀ j, j < nl → 0 ≤ ((pFe A now nl cd s).1 j).toInt ∧ ((pFe A now nl cd s).1 j).toInt ≤ B := by
  intro j hj
  unfold pFe
  split
  · exact h j hj
  · obtain ⟨o1, o2⟩ := ordR_spec (lt := ltb (fun j => az_nv (A 33 j)) (A 30)) ltb_t ltb_tot (P := pOn (A 29) s.1 (nI cd)) (n := nl)
    obtain ⟨b1, b2, -⟩ := tk_bd (B := 0) (L := (ordR (ltb (fun j => az_nv (A 33 j)) (A 30)) (pOn (A 29) s.1 (nI cd)) nl).reverse) (g := s.1) (dr := fun _ => 0) (m := A 22 cd) (nd_rev (srt_nodup (lt := ltb (fun j => az_nv (A 33 j)) (A 30)) ltb_ir o2)) (fun x hx => (h x ((o1 x).mp (List.mem_reverse.mp hx)).1).1) h22
    by_cases hm : j ∈ (ordR (ltb (fun j => az_nv (A 33 j)) (A 30)) (pOn (A 29) s.1 (nI cd)) nl).reverse
    · exact ⟨(b2 j hm).1, Int.le_trans (b2 j hm).2 (h j hj).2⟩
    · dsimp only
      rw [b1 j hm]
      exact h j hj
section
variable {xs : az_X} {d : Nat} {nc nl c z : Nat} {I I' A : Nat → Nat → Int32} {J : Nat → Nat → Int64} {K : az_O → Prop}
theorem c57l {t : Nat} {now : Int32} {s : (Nat → Int32) × (Nat → Int32) × (Nat → Int32) × (Nat → Int32)} (hR : rC A I' s) (hnc : nc ≤ 12) (hn : nl ≤ 60) (ht : t < 600) (h9 : A 18 9 = nI nc) (h7 : A 28 7 = nI nl) (hnow : A 0 6 = now) (hE : ∀ j, j < nl → az_eb (A 33 j)) (hcd : ∀ cd, cd < nc → az_in (A 19 cd) 4 = true ∧ az_in (A 20 cd) 3 = true ∧ 0 ≤ (A 22 cd).toInt) (hb : ∀ j, j < nl → 0 ≤ (s.1 j).toInt ∧ (s.1 j).toInt ≤ ((1000 * (t + 1) : Nat) : Int)) (hK : ∀ I'', rC A I'' (fd (pCd A now nl) nc 0 s) → az_W xs (d + 6) 57 68 [some (.ref 0), some (.int (nI nc))] [] (az_S, I'', J, c, z) K) : az_W xs (d + 6) 57 41 [some (.ref 0), some (.int 0)] [] (az_S, I', J, c, z) K := by
  have key := az_loopB (n := nc) (h := pCd A now nl) (Inv := fun _ s => ∀ j, j < nl → 0 ≤ (s.1 j).toInt ∧ (s.1 j).toInt ≤ ((1000 * (t + 1) : Nat) : Int)) (W := fun j s => ∀ I', rC A I' s → az_W xs (d + 6) 57 41 [some (.ref 0), some (.int (nI j))] [] (az_S, I', J, c, z) K) (fun j s hj hi => pFe_bd (hcd j hj).2.2 (pEs_bd (by omega) hi)) ?_ nc 0 s (Nat.zero_add _) hb ?_
  · exact key I' hR
  · intro j s hj hi hw I' hR
    have f2 : (nI nc ≤ nI j) = False := by rw [bz_le (by omega) (by omega)]; simp; omega
    have e18 : I' 18 = A 18 := rC_r hR (by decide)
    obtain ⟨g1, g2, g3⟩ := hcd j hj
    refine s57_41.mpr ?_
    simp (maxDischargeDepth := 7) only [C57, th57, s57_0, s57_1, s57_4, s57_7, s57_10, s57_11, s57_14, s57_15, s57_18, s57_19, s57_20, s57_23, s57_24, s57_25, s57_28, s57_29, s57_32, s57_35, s57_36, s57_39, s57_40, s57_42, s57_43, s57_46, s57_49, s57_52, s57_53, s57_54, s57_57, s57_58, s57_59, s57_62, s57_65, s57_69, s57_72, g0_6, cc73, p0_6, g0_2, g18_7, A26, cc88, g18_9, cc80, cc82, az_ex, az_bk0, az_bk1, az_bkx, az_cat0, az_cati, az_catr, az_catl, az_vi, az_vr, az_bo0, az_bo1, az_boi, true_and, and_true, if_true, if_false, ne_eq, not_true_eq_false, not_false_eq_true, List.set_cons_zero, List.set_cons_succ, Nat.reduceAdd, Nat.reduceLeDiff, Nat.reduceEqDiff, ↓reduceIte, reduceCtorEq, Nat.reduceSub, Nat.reduceMul, Int32.reduceLT, Int32.reduceLE, Int32.reduceAdd, Int32.reduceMul, Int32.reduceSub, az_ne10, az_ne20, az_ne30, Nat.zero_le, e18, h9, f2]
    refine c80 hR hn h7 hnow (show j < 12 by omega) g1 g2 ?_
    intro I2 hR2
    simp (maxDischargeDepth := 7) only [C57, th57, s57_0, s57_1, s57_4, s57_7, s57_10, s57_11, s57_14, s57_15, s57_18, s57_19, s57_20, s57_23, s57_24, s57_25, s57_28, s57_29, s57_32, s57_35, s57_36, s57_39, s57_40, s57_42, s57_43, s57_46, s57_49, s57_52, s57_53, s57_54, s57_57, s57_58, s57_59, s57_62, s57_65, s57_69, s57_72, g0_6, cc73, p0_6, g0_2, g18_7, A26, cc88, g18_9, cc80, cc82, az_ex, az_bk0, az_bk1, az_bkx, az_cat0, az_cati, az_catr, az_catl, az_vi, az_vr, az_bo0, az_bo1, az_boi, true_and, and_true, if_true, if_false, ne_eq, not_true_eq_false, not_false_eq_true, List.set_cons_zero, List.set_cons_succ, Nat.reduceAdd, Nat.reduceLeDiff, Nat.reduceEqDiff, ↓reduceIte, reduceCtorEq, Nat.reduceSub, Nat.reduceMul, Int32.reduceLT, Int32.reduceLE, Int32.reduceAdd, Int32.reduceMul, Int32.reduceSub, az_ne10, az_ne20, az_ne30, Nat.zero_le]
    refine c82 hR2 hn ht h7 hnow hE (show j < 12 by omega) g1 g3 (pEs_bd (by omega) hi) ?_
    intro I3 hR3
    simp (maxDischargeDepth := 7) only [C57, th57, s57_0, s57_1, s57_4, s57_7, s57_10, s57_11, s57_14, s57_15, s57_18, s57_19, s57_20, s57_23, s57_24, s57_25, s57_28, s57_29, s57_32, s57_35, s57_36, s57_39, s57_40, s57_42, s57_43, s57_46, s57_49, s57_52, s57_53, s57_54, s57_57, s57_58, s57_59, s57_62, s57_65, s57_69, s57_72, g0_6, cc73, p0_6, g0_2, g18_7, A26, cc88, g18_9, cc80, cc82, az_ex, az_bk0, az_bk1, az_bkx, az_cat0, az_cati, az_catr, az_catl, az_vi, az_vr, az_bo0, az_bo1, az_boi, true_and, and_true, if_true, if_false, ne_eq, not_true_eq_false, not_false_eq_true, List.set_cons_zero, List.set_cons_succ, Nat.reduceAdd, Nat.reduceLeDiff, Nat.reduceEqDiff, ↓reduceIte, reduceCtorEq, Nat.reduceSub, Nat.reduceMul, Int32.reduceLT, Int32.reduceLE, Int32.reduceAdd, Int32.reduceMul, Int32.reduceSub, az_ne10, az_ne20, az_ne30, Nat.zero_le, nI_1]
    exact hw _ hR3
  · intro I' hR
    have f3 : (nI nc ≤ nI nc) = True := by rw [bz_le (by omega) (by omega)]; simp
    have e18 : I' 18 = A 18 := rC_r hR (by decide)
    refine s57_41.mpr ?_
    simp (maxDischargeDepth := 7) only [C57, th57, s57_0, s57_1, s57_4, s57_7, s57_10, s57_11, s57_14, s57_15, s57_18, s57_19, s57_20, s57_23, s57_24, s57_25, s57_28, s57_29, s57_32, s57_35, s57_36, s57_39, s57_40, s57_42, s57_43, s57_46, s57_49, s57_52, s57_53, s57_54, s57_57, s57_58, s57_59, s57_62, s57_65, s57_69, s57_72, g0_6, cc73, p0_6, g0_2, g18_7, A26, cc88, g18_9, cc80, cc82, az_ex, az_bk0, az_bk1, az_bkx, az_cat0, az_cati, az_catr, az_catl, az_vi, az_vr, az_bo0, az_bo1, az_boi, true_and, and_true, if_true, if_false, ne_eq, not_true_eq_false, not_false_eq_true, List.set_cons_zero, List.set_cons_succ, Nat.reduceAdd, Nat.reduceLeDiff, Nat.reduceEqDiff, ↓reduceIte, reduceCtorEq, Nat.reduceSub, Nat.reduceMul, Int32.reduceLT, Int32.reduceLE, Int32.reduceAdd, Int32.reduceMul, Int32.reduceSub, az_ne10, az_ne20, az_ne30, Nat.zero_le, e18, h9, f3]
    exact hK _ hR
end
