/-! a month comes: the call -/
theorem pass_sim {I I' : Nat → Nat → Int32} {mo mo' nc nl ng np t : Nat} (H : az_Sim I mo nc nl ng np t) (e : ∀ a, a ∈ az_dc → a ∉ [10, 11, 15, 16, 17, 26, 31, 165, 169, 186, 187, 190] → I' a = I a) (hc : az_cnt mo' nc nl ng np I') (e1 : I' 186 = I' 10) (e2' : I' 187 = I' 11) (e3' : I' 165 = I' 26) (e4' : I' 169 = I' 31) (e5 : az_edue I') (h26 : ∀ i, i < nc → az_in (I' 26 i) 3 = true) (h26' : ∀ i, nc ≤ i → I' 26 i = 0) (h31 : ∀ j, j < nl → 0 ≤ (I' 31 j).toInt ∧ (I' 31 j).toInt ≤ 1000 * (t + 1)) : az_Sim I' mo' nc nl ng np t := by
  have ep : ∀ p, p < 40 → I' (112 + p) = I (112 + p) := fun p hp => e _ (by unfold az_dc; exact List.mem_append_right _ (List.mem_map.mpr ⟨p, List.mem_range.mpr hp, rfl⟩)) (by simp; omega)
  have e2 := e 2 (by decide +kernel) (by decide +kernel)
  have e3 := e 3 (by decide +kernel) (by decide +kernel)
  have e4 := e 4 (by decide +kernel) (by decide +kernel)
  have e6 := e 6 (by decide +kernel) (by decide +kernel)
  have e7 := e 7 (by decide +kernel) (by decide +kernel)
  have e8 := e 8 (by decide +kernel) (by decide +kernel)
  have e9 := e 9 (by decide +kernel) (by decide +kernel)
  have e12 := e 12 (by decide +kernel) (by decide +kernel)
  have e13 := e 13 (by decide +kernel) (by decide +kernel)
  have e19 := e 19 (by decide +kernel) (by decide +kernel)
  have e20 := e 20 (by decide +kernel) (by decide +kernel)
  have e21 := e 21 (by decide +kernel) (by decide +kernel)
  have e22 := e 22 (by decide +kernel) (by decide +kernel)
  have e23 := e 23 (by decide +kernel) (by decide +kernel)
  have e24 := e 24 (by decide +kernel) (by decide +kernel)
  have e25 := e 25 (by decide +kernel) (by decide +kernel)
  have e27 := e 27 (by decide +kernel) (by decide +kernel)
  have e29 := e 29 (by decide +kernel) (by decide +kernel)
  have e30 := e 30 (by decide +kernel) (by decide +kernel)
  have e32 := e 32 (by decide +kernel) (by decide +kernel)
  have e33 := e 33 (by decide +kernel) (by decide +kernel)
  have e37 := e 37 (by decide +kernel) (by decide +kernel)
  have e38 := e 38 (by decide +kernel) (by decide +kernel)
  have e39 := e 39 (by decide +kernel) (by decide +kernel)
  have e40 := e 40 (by decide +kernel) (by decide +kernel)
  have e107 := e 107 (by decide +kernel) (by decide +kernel)
  have e108 := e 108 (by decide +kernel) (by decide +kernel)
  have e109 := e 109 (by decide +kernel) (by decide +kernel)
  have e110 := e 110 (by decide +kernel) (by decide +kernel)
  have e153 := e 153 (by decide +kernel) (by decide +kernel)
  have e154 := e 154 (by decide +kernel) (by decide +kernel)
  have e155 := e 155 (by decide +kernel) (by decide +kernel)
  have e156 := e 156 (by decide +kernel) (by decide +kernel)
  have e157 := e 157 (by decide +kernel) (by decide +kernel)
  have e158 := e 158 (by decide +kernel) (by decide +kernel)
  have e159 := e 159 (by decide +kernel) (by decide +kernel)
  have e160 := e 160 (by decide +kernel) (by decide +kernel)
  have e161 := e 161 (by decide +kernel) (by decide +kernel)
  have e162 := e 162 (by decide +kernel) (by decide +kernel)
  have e163 := e 163 (by decide +kernel) (by decide +kernel)
  have e164 := e 164 (by decide +kernel) (by decide +kernel)
  have e166 := e 166 (by decide +kernel) (by decide +kernel)
  have e167 := e 167 (by decide +kernel) (by decide +kernel)
  have e168 := e 168 (by decide +kernel) (by decide +kernel)
  have e170 := e 170 (by decide +kernel) (by decide +kernel)
  have e171 := e 171 (by decide +kernel) (by decide +kernel)
  have e172 := e 172 (by decide +kernel) (by decide +kernel)
  have e173 := e 173 (by decide +kernel) (by decide +kernel)
  have e174 := e 174 (by decide +kernel) (by decide +kernel)
  have e175 := e 175 (by decide +kernel) (by decide +kernel)
  have e177 := e 177 (by decide +kernel) (by decide +kernel)
  have e178 := e 178 (by decide +kernel) (by decide +kernel)
  have e179 := e 179 (by decide +kernel) (by decide +kernel)
  have e180 := e 180 (by decide +kernel) (by decide +kernel)
  have e181 := e 181 (by decide +kernel) (by decide +kernel)
  have e182 := e 182 (by decide +kernel) (by decide +kernel)
  have e183 := e 183 (by decide +kernel) (by decide +kernel)
  have e184 := e 184 (by decide +kernel) (by decide +kernel)
  have e185 := e 185 (by decide +kernel) (by decide +kernel)
  have e188 := e 188 (by decide +kernel) (by decide +kernel)
  have e189 := e 189 (by decide +kernel) (by decide +kernel)
  obtain ⟨⟨f153, f154, f155, f156, f157, f184, f185, f186, f187, f188, f189, f158, f159, f160, f161, f162, f163, f164, f165, f166, f167, f168, f169, f170, f172, f173, f174, f177, f178, f179, f180⟩, h2, h3, h4, h5, h6, h7, h8, h9, h10, h11, h12, h13⟩ := H
  refine ⟨⟨(e153.trans f153).trans e2.symm, (e154.trans f154).trans e3.symm, (e155.trans f155).trans e4.symm, (e156.trans f156).trans e6.symm, (e157.trans f157).trans e7.symm, (e184.trans f184).trans e8.symm, (e185.trans f185).trans e9.symm, e1, e2', (e188.trans f188).trans e12.symm, (e189.trans f189).trans e13.symm, (e158.trans f158).trans e19.symm, (e159.trans f159).trans e20.symm, (e160.trans f160).trans e21.symm, (e161.trans f161).trans e22.symm, (e162.trans f162).trans e23.symm, (e163.trans f163).trans e24.symm, (e164.trans f164).trans e25.symm, e3', (e166.trans f166).trans e27.symm, (e167.trans f167).trans e29.symm, (e168.trans f168).trans e30.symm, e4', (e170.trans f170).trans e32.symm, (e172.trans f172).trans e37.symm, (e173.trans f173).trans e38.symm, (e174.trans f174).trans e39.symm, (e177.trans f177).trans e107.symm, (e178.trans f178).trans e110.symm, (e179.trans f179).trans e108.symm, (e180.trans f180).trans e109.symm⟩, hc, ?_, e5, ?_, ?_, ?_, ?_, ?_, ?_, ?_, ?_, ?_⟩
  · unfold az_eend at h3 ⊢
    rw [e171, e33]
    exact h3
  · exact fr_eopn e183 ep h5
  · exact fr_ebar e40 e175 h6
  · exact fr_vld e2 e3 h7
  · exact fr_vch e6 h8
  · refine ⟨fun i hi => ?_, fun i hi => ?_⟩
    · obtain ⟨a1, a2, a3, a4, a5⟩ := h9.1 i hi
      rw [e19, e20, e21, e22, e24]
      exact ⟨a1, a2, a3, a4, h26 i hi⟩
    · obtain ⟨a1, a2, a3⟩ := h9.2 i hi
      rw [e24, e27]
      exact ⟨a1, h26' i hi, a3⟩
  · exact vlt_left h10 h31 e29 e30 e32 e33
  · exact fr_vcp e37 e38 e39 h11
  · exact fr_vpy h2.2.2.2.2.2.2 e33 e30 e107 e109 e181 e182 ep h12
  · exact fr_pz e181 e183 h13
def pCd (A : Nat → Nat → Int32) (now : Int32) (nl cd : Nat) (s : (Nat → Int32) × (Nat → Int32) × (Nat → Int32) × (Nat → Int32)) : (Nat → Int32) × (Nat → Int32) × (Nat → Int32) × (Nat → Int32) := pFe A now nl cd (fd (pEs A now cd) nl 0 s)
theorem pEs_bd {A : Nat → Nat → Int32} {now : Int32} {nl cd : Nat} {B : Int} (hB : 0 ≤ B) {s : (Nat → Int32) × (Nat → Int32) × (Nat → Int32) × (Nat → Int32)} (h : ∀ j, j < nl → 0 ≤ (s.1 j).toInt ∧ (s.1 j).toInt ≤ B) : ∀ j, j < nl → 0 ≤ ((fd (pEs A now cd) nl 0 s).1 j).toInt ∧ ((fd (pEs A now cd) nl 0 s).1 j).toInt ≤ B := by
  refine fd_inv (n := nl) (h := pEs A now cd) (Inv := fun _ s => ∀ j, j < nl → 0 ≤ (s.1 j).toInt ∧ (s.1 j).toInt ≤ B) ?_ nl 0 s (Nat.zero_add _) h
  intro k s hk h j hj
  unfold pEs
  split
  · split
    · rw [pEd_or, upde]
      split
      · exact ⟨by decide, hB⟩
      · exact h j hj
    · exact h j hj
  · exact h j hj
theorem pFe_bd {A : Nat → Nat → Int32} {now : Int32} {nl cd : Nat} {B : Int} {s : (Nat → Int32) × (Nat → Int32) × (Nat → Int32) × (Nat → Int32)} (h22 : 0 ≤ (A 22 cd).toInt) (h : ∀ j, j < nl → 0 ≤ (s.1 j).toInt ∧ (s.1 j).toInt ≤ B) : ∀ j, j < nl → 0 ≤ ((pFe A now nl cd s).1 j).toInt ∧ ((pFe A now nl cd s).1 j).toInt ≤ B := by
  intro j hj
  unfold pFe
  split
  · exact h j hj
  · obtain ⟨o1, o2⟩ := ordR_spec (lt := ltb (fun j => az_nv (A 33 j)) (A 30)) ltb_t ltb_tot (P := pOn (A 29) s.1 (nI cd)) (n := nl)
    obtain ⟨b1, b2, -⟩ := tk_bd (B := 0) (L := (ordR (ltb (fun j => az_nv (A 33 j)) (A 30)) (pOn (A 29) s.1 (nI cd)) nl).reverse) (g := s.1) (dr := fun _ => 0) (m := A 22 cd) (nd_rev (srt_nodup (lt := ltb (fun j => az_nv (A 33 j)) (A 30)) ltb_ir o2)) (fun x hx => (h x ((o1 x).mp (List.mem_reverse.mp hx)).1).1) h22
    by_cases hm : j ∈ (ordR (ltb (fun j => az_nv (A 33 j)) (A 30)) (pOn (A 29) s.1 (nI cd)) nl).reverse
    · exact ⟨(b2 j hm).1, Int.le_trans (b2 j hm).2 (h j hj).2⟩
    · dsimp only
      rw [b1 j hm]
      exact h j hj
section
variable {xs : az_X} {d : Nat} {nc nl c z : Nat} {I I' A : Nat → Nat → Int32} {J : Nat → Nat → Int64} {K : az_O → Prop}
theorem c57l {t : Nat} {now : Int32} {s : (Nat → Int32) × (Nat → Int32) × (Nat → Int32) × (Nat → Int32)} (hR : rC A I' s) (hnc : nc ≤ 12) (hn : nl ≤ 60) (ht : t < 600) (h9 : A 18 9 = nI nc) (h7 : A 28 7 = nI nl) (hnow : A 0 6 = now) (hE : ∀ j, j < nl → az_eb (A 33 j)) (hcd : ∀ cd, cd < nc → az_in (A 19 cd) 4 = true ∧ az_in (A 20 cd) 3 = true ∧ 0 ≤ (A 22 cd).toInt) (hb : ∀ j, j < nl → 0 ≤ (s.1 j).toInt ∧ (s.1 j).toInt ≤ ((1000 * (t + 1) : Nat) : Int)) (hK : ∀ I'', rC A I'' (fd (pCd A now nl) nc 0 s) → az_W xs (d + 6) 57 68 [some (.ref 0), some (.int (nI nc))] [] (az_S, I'', J, c, z) K) : az_W xs (d + 6) 57 41 [some (.ref 0), some (.int 0)] [] (az_S, I', J, c, z) K := by
  have key := az_loopB (n := nc) (h := pCd A now nl) (Inv := fun _ s => ∀ j, j < nl → 0 ≤ (s.1 j).toInt ∧ (s.1 j).toInt ≤ ((1000 * (t + 1) : Nat) : Int)) (W := fun j s => ∀ I', rC A I' s → az_W xs (d + 6) 57 41 [some (.ref 0), some (.int (nI j))] [] (az_S, I', J, c, z) K) (fun j s hj hi => pFe_bd (hcd j hj).2.2 (pEs_bd (by omega) hi)) ?_ nc 0 s (Nat.zero_add _) hb ?_
  · exact key I' hR
  · intro j s hj hi hw I' hR
    have f2 : (nI nc ≤ nI j) = False := by rw [bz_le (by omega) (by omega)]; simp; omega
    have e18 : I' 18 = A 18 := rC_r hR (by decide)
    obtain ⟨g1, g2, g3⟩ := hcd j hj
    refine s57_41.mpr ?_
    simp (maxDischargeDepth := 7) only [C57, th57, s57_0, s57_1, s57_4, s57_7, s57_10, s57_11, s57_14, s57_15, s57_18, s57_19, s57_20, s57_23, s57_24, s57_25, s57_28, s57_29, s57_32, s57_35, s57_36, s57_39, s57_40, s57_42, s57_43, s57_46, s57_49, s57_52, s57_53, s57_54, s57_57, s57_58, s57_59, s57_62, s57_65, s57_69, s57_72, g0_6, cc73, p0_6, g0_2, g18_7, A26, cc143, g18_9, cc80, cc82, az_ex, az_bk0, az_bk1, az_bkx, az_cat0, az_cati, az_catr, az_catl, az_vi, az_vr, az_bo0, az_bo1, az_boi, true_and, and_true, if_true, if_false, ne_eq, not_true_eq_false, not_false_eq_true, List.set_cons_zero, List.set_cons_succ, Nat.reduceAdd, Nat.reduceLeDiff, Nat.reduceEqDiff, ↓reduceIte, reduceCtorEq, Nat.reduceSub, Nat.reduceMul, Int32.reduceLT, Int32.reduceLE, Int32.reduceAdd, Int32.reduceMul, Int32.reduceSub, az_ne10, az_ne20, az_ne30, Nat.zero_le, e18, h9, f2]
    refine c80 hR hn h7 hnow (show j < 12 by omega) g1 g2 ?_
    intro I2 hR2
    simp (maxDischargeDepth := 7) only [C57, th57, s57_0, s57_1, s57_4, s57_7, s57_10, s57_11, s57_14, s57_15, s57_18, s57_19, s57_20, s57_23, s57_24, s57_25, s57_28, s57_29, s57_32, s57_35, s57_36, s57_39, s57_40, s57_42, s57_43, s57_46, s57_49, s57_52, s57_53, s57_54, s57_57, s57_58, s57_59, s57_62, s57_65, s57_69, s57_72, g0_6, cc73, p0_6, g0_2, g18_7, A26, cc143, g18_9, cc80, cc82, az_ex, az_bk0, az_bk1, az_bkx, az_cat0, az_cati, az_catr, az_catl, az_vi, az_vr, az_bo0, az_bo1, az_boi, true_and, and_true, if_true, if_false, ne_eq, not_true_eq_false, not_false_eq_true, List.set_cons_zero, List.set_cons_succ, Nat.reduceAdd, Nat.reduceLeDiff, Nat.reduceEqDiff, ↓reduceIte, reduceCtorEq, Nat.reduceSub, Nat.reduceMul, Int32.reduceLT, Int32.reduceLE, Int32.reduceAdd, Int32.reduceMul, Int32.reduceSub, az_ne10, az_ne20, az_ne30, Nat.zero_le]
    refine c82 hR2 hn ht h7 hnow hE (show j < 12 by omega) g1 g3 (pEs_bd (by omega) hi) ?_
    intro I3 hR3
    simp (maxDischargeDepth := 7) only [C57, th57, s57_0, s57_1, s57_4, s57_7, s57_10, s57_11, s57_14, s57_15, s57_18, s57_19, s57_20, s57_23, s57_24, s57_25, s57_28, s57_29, s57_32, s57_35, s57_36, s57_39, s57_40, s57_42, s57_43, s57_46, s57_49, s57_52, s57_53, s57_54, s57_57, s57_58, s57_59, s57_62, s57_65, s57_69, s57_72, g0_6, cc73, p0_6, g0_2, g18_7, A26, cc143, g18_9, cc80, cc82, az_ex, az_bk0, az_bk1, az_bkx, az_cat0, az_cati, az_catr, az_catl, az_vi, az_vr, az_bo0, az_bo1, az_boi, true_and, and_true, if_true, if_false, ne_eq, not_true_eq_false, not_false_eq_true, List.set_cons_zero, List.set_cons_succ, Nat.reduceAdd, Nat.reduceLeDiff, Nat.reduceEqDiff, ↓reduceIte, reduceCtorEq, Nat.reduceSub, Nat.reduceMul, Int32.reduceLT, Int32.reduceLE, Int32.reduceAdd, Int32.reduceMul, Int32.reduceSub, az_ne10, az_ne20, az_ne30, Nat.zero_le, nI_1]
    exact hw _ hR3
  · intro I' hR
    have f3 : (nI nc ≤ nI nc) = True := by rw [bz_le (by omega) (by omega)]; simp
    have e18 : I' 18 = A 18 := rC_r hR (by decide)
    refine s57_41.mpr ?_
    simp (maxDischargeDepth := 7) only [C57, th57, s57_0, s57_1, s57_4, s57_7, s57_10, s57_11, s57_14, s57_15, s57_18, s57_19, s57_20, s57_23, s57_24, s57_25, s57_28, s57_29, s57_32, s57_35, s57_36, s57_39, s57_40, s57_42, s57_43, s57_46, s57_49, s57_52, s57_53, s57_54, s57_57, s57_58, s57_59, s57_62, s57_65, s57_69, s57_72, g0_6, cc73, p0_6, g0_2, g18_7, A26, cc143, g18_9, cc80, cc82, az_ex, az_bk0, az_bk1, az_bkx, az_cat0, az_cati, az_catr, az_catl, az_vi, az_vr, az_bo0, az_bo1, az_boi, true_and, and_true, if_true, if_false, ne_eq, not_true_eq_false, not_false_eq_true, List.set_cons_zero, List.set_cons_succ, Nat.reduceAdd, Nat.reduceLeDiff, Nat.reduceEqDiff, ↓reduceIte, reduceCtorEq, Nat.reduceSub, Nat.reduceMul, Int32.reduceLT, Int32.reduceLE, Int32.reduceAdd, Int32.reduceMul, Int32.reduceSub, az_ne10, az_ne20, az_ne30, Nat.zero_le, e18, h9, f3]
    exact hK _ hR
theorem m127l {t : Nat} {now : Int32} {f : Nat → Int32} {s : (Nat → Int32) × (Nat → Int32) × (Nat → Int32) × (Nat → Int32)} {o2 : Option Value} (hR : rM I I' s f) (hM : mC I A now nl) (hnc : nc ≤ 12) (hn : nl ≤ 60) (ht : t < 600) (h9 : I 152 7 = nI nc) (ho : ∀ k, k < nl → az_in (A 30 k) 4 = true) (hcd : ∀ cd, cd < nc → az_in (A 19 cd) 4 = true ∧ az_in (A 20 cd) 3 = true ∧ 0 ≤ (A 22 cd).toInt) (hb : ∀ j, j < nl → 0 ≤ (s.1 j).toInt ∧ (s.1 j).toInt ≤ ((1000 * (t + 1) : Nat) : Int)) (hK : ∀ I'' o2, rM I I'' (fd (pCd A now nl) nc 0 s) (fd (fun j f => upd f j 0) nc 0 f) → az_W xs (d + 4) 127 122 [some (.ref 152), some (.int (nI nc)), o2] [] (az_S, I'', J, c, z) K) : az_W xs (d + 4) 127 36 [some (.ref 152), some (.int 0), o2] [] (az_S, I', J, c, z) K := by
  obtain ⟨⟨m1, m2, m3, m4⟩, ⟨m5, m6, m7, m8⟩, ⟨m9, m10⟩, m11⟩ := id hM
  have key := az_loopB (n := nc) (h := fun j (s : ((Nat → Int32) × (Nat → Int32) × (Nat → Int32) × (Nat → Int32)) × (Nat → Int32)) => (pCd A now nl j s.1, upd s.2 j 0)) (Inv := fun _ s => ∀ j, j < nl → 0 ≤ (s.1.1 j).toInt ∧ (s.1.1 j).toInt ≤ ((1000 * (t + 1) : Nat) : Int)) (W := fun j s => ∀ I' o2, rM I I' s.1 s.2 → az_W xs (d + 4) 127 36 [some (.ref 152), some (.int (nI j)), o2] [] (az_S, I', J, c, z) K) (fun j s hj hi => pFe_bd (hcd j hj).2.2 (pEs_bd (by omega) hi)) ?_ nc 0 (s, f) (Nat.zero_add _) hb ?_
  · exact key I' o2 hR
  · rintro j ⟨s, f⟩ hj hi hw I' o2 hR
    dsimp only at hi hw hR
    have f1 : az_in (nI j) 12 = true := by rw [az_in_nI (by omega)]; simp; omega
    have f2 : (nI nc ≤ nI j) = False := by rw [bz_le (by omega) (by omega)]; simp; omega
    have e152 : I' 152 = I 152 := rM_r hR (by decide)
    obtain ⟨g1, g2, g3⟩ := hcd j hj
    refine s127_36.mpr ?_
    simp (maxDischargeDepth := 7) only [C127, th127, s127_0, s127_1, s127_2, s127_5, s127_8, s127_11, s127_12, s127_15, s127_16, s127_19, s127_22, s127_23, s127_24, s127_25, s127_26, s127_29, s127_30, s127_31, s127_34, s127_35, s127_37, s127_38, s127_41, s127_44, s127_45, s127_48, s127_49, s127_50, s127_51, s127_52, s127_54, s127_55, s127_58, s127_61, s127_62, s127_65, s127_66, s127_67, s127_68, s127_71, s127_72, s127_75, s127_76, s127_77, s127_78, s127_81, s127_84, s127_85, s127_86, s127_89, s127_92, s127_95, s127_96, s127_99, s127_100, s127_103, s127_104, s127_105, s127_106, s127_108, s127_111, s127_112, s127_113, s127_116, s127_119, s127_123, s127_126, g152_1, cc89, p152_1, g152_7, g152_15, A165, g152_17, g152_18, A167, g152_22, A171, cc125, g152_14, A164, cc126, az_ex, az_bk0, az_bk1, az_bkx, az_cat0, az_cati, az_catr, az_catl, az_vi, az_vr, az_bo0, az_bo1, az_boi, true_and, and_true, if_true, if_false, ne_eq, not_true_eq_false, not_false_eq_true, List.set_cons_zero, List.set_cons_succ, Nat.reduceAdd, Nat.reduceLeDiff, Nat.reduceEqDiff, ↓reduceIte, reduceCtorEq, Nat.reduceSub, Nat.reduceMul, Int32.reduceLT, Int32.reduceLE, Int32.reduceAdd, Int32.reduceMul, Int32.reduceSub, az_ne10, az_ne20, az_ne30, Nat.zero_le, e152, h9, f1, f2, nI_clamp (show j < 2 ^ 31 by omega)]
    have hR2 : rM I (az_up I' 165 j 0) s (upd f j 0) := by
      obtain ⟨r1, r2, r3, r4, r5, r6⟩ := hR
      refine ⟨by simp [az_upe, r1], fun q hq => by simpa [az_upe] using r2 q hq, by simp [az_upe, r3], by simp [az_upe, r4], by simp [az_upe, r5], fun a a1 a2 a3 a4 a5 => ?_⟩
      rw [az_up_ne a5]
      exact r6 a a1 a2 a3 a4 a5
    refine m127i hR2 hM hn (show j < 12 by omega) ho g1 g2 ?_
    intro I3 hR3
    have b3 := pEs_bd (A := A) (now := now) (cd := j) (by omega) hi
    have e152 : I3 152 = I 152 := rM_r hR3 (by decide)
    have e164 : I3 164 = A 25 := (rM_r hR3 (by decide)).trans m6
    have e161 : I3 161 = A 22 := (rM_r hR3 (by decide)).trans m7
    have e158 : I3 158 = A 19 := (rM_r hR3 (by decide)).trans m4
    have e167 : I3 167 = A 29 := (rM_r hR3 (by decide)).trans m1
    have e168 : I3 168 = A 30 := (rM_r hR3 (by decide)).trans m2
    have e171 : I3 171 = fun j => az_nv (A 33 j) := (rM_r hR3 (by decide)).trans m8
    have hw2 := hw
    unfold pCd pFe at hw2
    by_cases h12 : now - A 25 j < 12
    · simp only [h12, if_true] at hw2
      simp (maxDischargeDepth := 7) only [C127, th127, s127_0, s127_1, s127_2, s127_5, s127_8, s127_11, s127_12, s127_15, s127_16, s127_19, s127_22, s127_23, s127_24, s127_25, s127_26, s127_29, s127_30, s127_31, s127_34, s127_35, s127_37, s127_38, s127_41, s127_44, s127_45, s127_48, s127_49, s127_50, s127_51, s127_52, s127_54, s127_55, s127_58, s127_61, s127_62, s127_65, s127_66, s127_67, s127_68, s127_71, s127_72, s127_75, s127_76, s127_77, s127_78, s127_81, s127_84, s127_85, s127_86, s127_89, s127_92, s127_95, s127_96, s127_99, s127_100, s127_103, s127_104, s127_105, s127_106, s127_108, s127_111, s127_112, s127_113, s127_116, s127_119, s127_123, s127_126, g152_1, cc89, p152_1, g152_7, g152_15, A165, g152_17, g152_18, A167, g152_22, A171, cc125, g152_14, A164, cc126, az_ex, az_bk0, az_bk1, az_bkx, az_cat0, az_cati, az_catr, az_catl, az_vi, az_vr, az_bo0, az_bo1, az_boi, true_and, and_true, if_true, if_false, ne_eq, not_true_eq_false, not_false_eq_true, List.set_cons_zero, List.set_cons_succ, Nat.reduceAdd, Nat.reduceLeDiff, Nat.reduceEqDiff, ↓reduceIte, reduceCtorEq, Nat.reduceSub, Nat.reduceMul, Int32.reduceLT, Int32.reduceLE, Int32.reduceAdd, Int32.reduceMul, Int32.reduceSub, az_ne10, az_ne20, az_ne30, Nat.zero_le, e152, e164, m10, f1, h12, nI_1, nI_clamp (show j < 2 ^ 31 by omega)]
      exact hw2 _ _ hR3
    · simp only [h12, if_false] at hw2
      simp (maxDischargeDepth := 7) only [C127, th127, s127_0, s127_1, s127_2, s127_5, s127_8, s127_11, s127_12, s127_15, s127_16, s127_19, s127_22, s127_23, s127_24, s127_25, s127_26, s127_29, s127_30, s127_31, s127_34, s127_35, s127_37, s127_38, s127_41, s127_44, s127_45, s127_48, s127_49, s127_50, s127_51, s127_52, s127_54, s127_55, s127_58, s127_61, s127_62, s127_65, s127_66, s127_67, s127_68, s127_71, s127_72, s127_75, s127_76, s127_77, s127_78, s127_81, s127_84, s127_85, s127_86, s127_89, s127_92, s127_95, s127_96, s127_99, s127_100, s127_103, s127_104, s127_105, s127_106, s127_108, s127_111, s127_112, s127_113, s127_116, s127_119, s127_123, s127_126, g152_1, cc89, p152_1, g152_7, g152_15, A165, g152_17, g152_18, A167, g152_22, A171, cc125, g152_14, A164, cc126, az_ex, az_bk0, az_bk1, az_bkx, az_cat0, az_cati, az_catr, az_catl, az_vi, az_vr, az_bo0, az_bo1, az_boi, true_and, and_true, if_true, if_false, ne_eq, not_true_eq_false, not_false_eq_true, List.set_cons_zero, List.set_cons_succ, Nat.reduceAdd, Nat.reduceLeDiff, Nat.reduceEqDiff, ↓reduceIte, reduceCtorEq, Nat.reduceSub, Nat.reduceMul, Int32.reduceLT, Int32.reduceLE, Int32.reduceAdd, Int32.reduceMul, Int32.reduceSub, az_ne10, az_ne20, az_ne30, Nat.zero_le, e152, e164, m10, f1, h12, nI_clamp (show j < 2 ^ 31 by omega)]
      refine r126 (dr := fun _ => 0) hn (by rw [e152]; exact m9) (show j < 12 by omega) (by rw [e158]; exact g1) (fun z hz => by rw [hR3.1]; exact (b3 z hz).1) (by rw [e161]; exact g3) rfl ?_
      rw [e171, e168, e167, e161, e158, hR3.1]
      simp (maxDischargeDepth := 7) only [C127, th127, s127_0, s127_1, s127_2, s127_5, s127_8, s127_11, s127_12, s127_15, s127_16, s127_19, s127_22, s127_23, s127_24, s127_25, s127_26, s127_29, s127_30, s127_31, s127_34, s127_35, s127_37, s127_38, s127_41, s127_44, s127_45, s127_48, s127_49, s127_50, s127_51, s127_52, s127_54, s127_55, s127_58, s127_61, s127_62, s127_65, s127_66, s127_67, s127_68, s127_71, s127_72, s127_75, s127_76, s127_77, s127_78, s127_81, s127_84, s127_85, s127_86, s127_89, s127_92, s127_95, s127_96, s127_99, s127_100, s127_103, s127_104, s127_105, s127_106, s127_108, s127_111, s127_112, s127_113, s127_116, s127_119, s127_123, s127_126, g152_1, cc89, p152_1, g152_7, g152_15, A165, g152_17, g152_18, A167, g152_22, A171, cc125, g152_14, A164, cc126, az_ex, az_bk0, az_bk1, az_bkx, az_cat0, az_cati, az_catr, az_catl, az_vi, az_vr, az_bo0, az_bo1, az_boi, true_and, and_true, if_true, if_false, ne_eq, not_true_eq_false, not_false_eq_true, List.set_cons_zero, List.set_cons_succ, Nat.reduceAdd, Nat.reduceLeDiff, Nat.reduceEqDiff, ↓reduceIte, reduceCtorEq, Nat.reduceSub, Nat.reduceMul, Int32.reduceLT, Int32.reduceLE, Int32.reduceAdd, Int32.reduceMul, Int32.reduceSub, az_ne10, az_ne20, az_ne30, Nat.zero_le, nI_1]
      refine hw2 _ _ ?_
      obtain ⟨r1, r2, r3, r4, r5, r6⟩ := hR3
      refine ⟨by simp [mFe], fun q hq => by simpa [mFe] using r2 q hq, by simp [mFe, r3], by simp [mFe, r4], by simp [mFe, r5], fun a a1 a2 a3 a4 a5 => ?_⟩
      rw [mFe, if_neg a3, if_neg a1]
      exact r6 a a1 a2 a3 a4 a5
  · rintro I' o2 hR
    have f3 : (nI nc ≤ nI nc) = True := by rw [bz_le (by omega) (by omega)]; simp
    have e152 : I' 152 = I 152 := rM_r hR (by decide)
    have e5 := fd_rel (n := nc) (h := fun j (s : ((Nat → Int32) × (Nat → Int32) × (Nat → Int32) × (Nat → Int32)) × (Nat → Int32)) => (pCd A now nl j s.1, upd s.2 j 0)) (g := fun j (t : ((Nat → Int32) × (Nat → Int32) × (Nat → Int32) × (Nat → Int32)) × (Nat → Int32)) => (pCd A now nl j t.1, upd t.2 j 0)) (Rl := fun _ s t => s = t) (fun j s t _ h => by rw [h]) nc 0 (s, f) (s, f) (Nat.zero_add _) rfl
    have e6 : ∀ n j s (f : Nat → Int32), fd (fun j (s : ((Nat → Int32) × (Nat → Int32) × (Nat → Int32) × (Nat → Int32)) × (Nat → Int32)) => (pCd A now nl j s.1, upd s.2 j 0)) n j (s, f) = (fd (pCd A now nl) n j s, fd (fun j f => upd f j 0) n j f) := by
      intro n
      induction n with
      | zero => intro j s f; rfl
      | succ n ih => intro j s f; exact ih (j + 1) _ _
    rw [e6] at hR
    refine s127_36.mpr ?_
    simp (maxDischargeDepth := 7) only [C127, th127, s127_0, s127_1, s127_2, s127_5, s127_8, s127_11, s127_12, s127_15, s127_16, s127_19, s127_22, s127_23, s127_24, s127_25, s127_26, s127_29, s127_30, s127_31, s127_34, s127_35, s127_37, s127_38, s127_41, s127_44, s127_45, s127_48, s127_49, s127_50, s127_51, s127_52, s127_54, s127_55, s127_58, s127_61, s127_62, s127_65, s127_66, s127_67, s127_68, s127_71, s127_72, s127_75, s127_76, s127_77, s127_78, s127_81, s127_84, s127_85, s127_86, s127_89, s127_92, s127_95, s127_96, s127_99, s127_100, s127_103, s127_104, s127_105, s127_106, s127_108, s127_111, s127_112, s127_113, s127_116, s127_119, s127_123, s127_126, g152_1, cc89, p152_1, g152_7, g152_15, A165, g152_17, g152_18, A167, g152_22, A171, cc125, g152_14, A164, cc126, az_ex, az_bk0, az_bk1, az_bkx, az_cat0, az_cati, az_catr, az_catl, az_vi, az_vr, az_bo0, az_bo1, az_boi, true_and, and_true, if_true, if_false, ne_eq, not_true_eq_false, not_false_eq_true, List.set_cons_zero, List.set_cons_succ, Nat.reduceAdd, Nat.reduceLeDiff, Nat.reduceEqDiff, ↓reduceIte, reduceCtorEq, Nat.reduceSub, Nat.reduceMul, Int32.reduceLT, Int32.reduceLE, Int32.reduceAdd, Int32.reduceMul, Int32.reduceSub, az_ne10, az_ne20, az_ne30, Nat.zero_le, e152, h9, f3]
    exact hK _ _ hR
end
