/-! the reference takes a fee -/
def mF (I : Nat → Nat → Int32) (g inc : Nat → Int32) : Nat → Nat → Int32 := az_set (az_set I 169 g) 186 inc
theorem mFe {I : Nat → Nat → Int32} {g inc : Nat → Int32} {b : Nat} : mF I g inc b = if b = 186 then inc else if b = 169 then g else I b := by
  unfold mF
  simp only [az_sete]
theorem mF_0 {I : Nat → Nat → Int32} : mF I (I 169) (I 186) = I := by
  funext b
  rw [mFe]
  by_cases h : b = 186
  · rw [if_pos h, h]
  · by_cases h2 : b = 169
    · rw [if_neg h, if_pos h2, h2]
    · rw [if_neg h, if_neg h2]
theorem pOn_upd {cd g : Nat → Int32} {x : Int32} {n y : Nat} {L : List Nat} {v : Int32} (hm : ∀ z, z ∈ y :: L ↔ z < n ∧ pOn cd g x z = true) (hy : y ∉ L) (hv : v.toInt = 0) : ∀ z, z ∈ L ↔ z < n ∧ pOn cd (upd g y v) x z = true := by
  intro z
  unfold pOn at *
  by_cases h : z = y
  · subst h
    constructor
    · intro h2; exact absurd h2 hy
    · rintro ⟨-, h2⟩
      simp only [upde, if_true, decide_eq_true_eq] at h2
      have := Int32.lt_iff_toInt_lt.mp h2.2
      rw [hv] at this
      exact absurd this (by decide)
  · have := hm z
    rw [List.mem_cons] at this
    rw [upde, if_neg h, ← this]
    constructor
    · exact Or.inr
    · rintro (h2 | h2)
      · exact absurd h2 h
      · exact h2
section
variable {xs : az_X} {d : Nat} {nl c z : Nat} {I : Nat → Nat → Int32} {J : Nat → Nat → Int64} {K : az_O → Prop}
theorem r126x {x lot : Int32} {o4 : Option Value} (hK : K (0, none, (az_S, I, J, c, z))) : az_W xs d 126 13 [some (.ref 152), some (.int x), some (.int 0), some (.int lot), o4] [] (az_S, I, J, c, z) K := by
  refine s126_13.mpr ?_
  simp (maxDischargeDepth := 7) only [C126, th126, s126_0, s126_1, s126_4, s126_5, s126_6, s126_7, s126_8, s126_9, s126_12, s126_14, s126_17, s126_18, s126_19, s126_22, s126_23, s126_26, s126_27, s126_28, s126_29, s126_32, s126_33, s126_36, s126_37, s126_38, s126_41, s126_42, s126_44, s126_45, s126_48, s126_49, s126_50, s126_51, s126_53, s126_54, s126_55, s126_56, s126_58, s126_59, s126_60, s126_61, s126_64, s126_65, s126_68, s126_69, s126_70, s126_71, s126_72, s126_74, s126_75, s126_76, s126_77, s126_78, s126_81, s126_82, s126_85, g152_11, A161, cc113, g152_20, A169, g152_41, A186, g152_8, A158, az_ex, az_bk0, az_bk1, az_bkx, az_cat0, az_cati, az_catr, az_catl, az_vi, az_vr, az_bo0, az_bo1, az_boi, true_and, and_true, if_true, if_false, ne_eq, not_true_eq_false, not_false_eq_true, List.set_cons_zero, List.set_cons_succ, Nat.reduceAdd, Nat.reduceLeDiff, Nat.reduceEqDiff, ↓reduceIte, reduceCtorEq, Nat.reduceSub, Nat.reduceMul, Int32.reduceLT, Int32.reduceLE, Int32.reduceAdd, Int32.reduceMul, Int32.reduceSub, az_ne10, az_ne20, az_ne30, Nat.zero_le]
  exact hK
theorem r126l {cd : Nat} {ch : Nat} (hn : nl ≤ 60) (h7 : I 152 17 = nI nl) (hcd : cd < 12) (hch4 : az_in (I 158 cd) 4 = true) (hch : ch = (I 158 cd).toNatClampNeg) : ∀ (L : List Nat) (g dr inc : Nat → Int32) (m : Int32) (o4 : Option Value), L.Pairwise (fun a b => ltb (I 171) (I 168) a b = true) → (∀ z, z ∈ L ↔ z < nl ∧ pOn (I 167) g (nI cd) z = true) → (∀ z, z < nl → 0 ≤ (g z).toInt) → 0 ≤ m.toInt → K (0, none, (az_S, mF I (tk L (g, dr, m)).1 (upd inc ch (inc ch + (m - (tk L (g, dr, m)).2.2))), J, c, z)) → az_W xs (d + 2) 126 13 [some (.ref 152), some (.int (nI cd)), some (.int m), some (.int (fd (ffst (ltb (I 171) (I 168)) (pOn (I 167) g (nI cd))) nl 0 (-1))), o4] [] (az_S, mF I g inc, J, c, z) K := by
  intro L
  induction L with
  | nil =>
    intro g dr inc m o4 hs hm hg h0 hK
    rw [ffst_list ltb_ir ltb_t ltb_tot (show nl < 2 ^ 31 by omega) hs hm]
    have e1 : (tk [] (g, dr, m)).2.2 = m := rfl
    have e2 : (tk [] (g, dr, m)).1 = g := rfl
    rw [e1, e2, Int32.sub_self, Int32.add_zero, upd_same] at hK
    refine s126_13.mpr ?_
    by_cases h1 : m ≤ 0
    · simp (maxDischargeDepth := 7) only [C126, th126, s126_0, s126_1, s126_4, s126_5, s126_6, s126_7, s126_8, s126_9, s126_12, s126_14, s126_17, s126_18, s126_19, s126_22, s126_23, s126_26, s126_27, s126_28, s126_29, s126_32, s126_33, s126_36, s126_37, s126_38, s126_41, s126_42, s126_44, s126_45, s126_48, s126_49, s126_50, s126_51, s126_53, s126_54, s126_55, s126_56, s126_58, s126_59, s126_60, s126_61, s126_64, s126_65, s126_68, s126_69, s126_70, s126_71, s126_72, s126_74, s126_75, s126_76, s126_77, s126_78, s126_81, s126_82, s126_85, g152_11, A161, cc113, g152_20, A169, g152_41, A186, g152_8, A158, az_ex, az_bk0, az_bk1, az_bkx, az_cat0, az_cati, az_catr, az_catl, az_vi, az_vr, az_bo0, az_bo1, az_boi, true_and, and_true, if_true, if_false, ne_eq, not_true_eq_false, not_false_eq_true, List.set_cons_zero, List.set_cons_succ, Nat.reduceAdd, Nat.reduceLeDiff, Nat.reduceEqDiff, ↓reduceIte, reduceCtorEq, Nat.reduceSub, Nat.reduceMul, Int32.reduceLT, Int32.reduceLE, Int32.reduceAdd, Int32.reduceMul, Int32.reduceSub, az_ne10, az_ne20, az_ne30, Nat.zero_le, h1]
      exact hK
    · simp (maxDischargeDepth := 7) only [C126, th126, s126_0, s126_1, s126_4, s126_5, s126_6, s126_7, s126_8, s126_9, s126_12, s126_14, s126_17, s126_18, s126_19, s126_22, s126_23, s126_26, s126_27, s126_28, s126_29, s126_32, s126_33, s126_36, s126_37, s126_38, s126_41, s126_42, s126_44, s126_45, s126_48, s126_49, s126_50, s126_51, s126_53, s126_54, s126_55, s126_56, s126_58, s126_59, s126_60, s126_61, s126_64, s126_65, s126_68, s126_69, s126_70, s126_71, s126_72, s126_74, s126_75, s126_76, s126_77, s126_78, s126_81, s126_82, s126_85, g152_11, A161, cc113, g152_20, A169, g152_41, A186, g152_8, A158, az_ex, az_bk0, az_bk1, az_bkx, az_cat0, az_cati, az_catr, az_catl, az_vi, az_vr, az_bo0, az_bo1, az_boi, true_and, and_true, if_true, if_false, ne_eq, not_true_eq_false, not_false_eq_true, List.set_cons_zero, List.set_cons_succ, Nat.reduceAdd, Nat.reduceLeDiff, Nat.reduceEqDiff, ↓reduceIte, reduceCtorEq, Nat.reduceSub, Nat.reduceMul, Int32.reduceLT, Int32.reduceLE, Int32.reduceAdd, Int32.reduceMul, Int32.reduceSub, az_ne10, az_ne20, az_ne30, Nat.zero_le, h1]
      exact hK
  | cons y L ih =>
    intro g dr inc m o4 hs hm hg h0 hK
    by_cases h1 : m ≤ 0
    · have h2 : m = 0 := by
        have := Int32.le_iff_toInt_le.mp h1
        apply Int32.toInt_inj.mp
        rw [show (0 : Int32).toInt = 0 from rfl] at *
        omega
      subst h2
      obtain ⟨e1, e2, -⟩ := tk_0 (L := y :: L) (g := g) (dr := dr) (fun z hz => hg z ((hm z).mp hz).1)
      rw [e1, e2, Int32.sub_self, Int32.add_zero, upd_same] at hK
      exact r126x hK
    · rw [ffst_list ltb_ir ltb_t ltb_tot (show nl < 2 ^ 31 by omega) hs hm]
      obtain ⟨hy, hyp⟩ := (hm y).mp List.mem_cons_self
      have hnd : y ∉ L := by
        have h2 := hs
        rw [List.pairwise_cons] at h2
        intro h3
        have := h2.1 y h3
        rw [ltb_ir] at this
        cases this
      have f1 : az_in (nI y) 60 = true := by rw [az_in_nI (by omega)]; simp; omega
      have f2 : az_in (nI cd) 12 = true := by rw [az_in_nI (by omega)]; simp; omega
      have f4 : (nI y = -1) = False := eq_false (nI_ne1 (by omega))
      obtain ⟨a1, a2, a3⟩ := tkm_le h0 (hg y hy)
      have e9 : tk (y :: L) (g, dr, m) = tk L (upd g y (g y - tkm m (g y)), upd dr y (tkm m (g y)), m - tkm m (g y)) := rfl
      rw [e9] at hK
      have eI : az_up (az_up (mF I g inc) 169 y (g y - tkm m (g y))) 186 ch (inc ch + tkm m (g y)) = mF I (upd g y (g y - tkm m (g y))) (upd inc ch (inc ch + tkm m (g y))) := by
        funext q
        simp only [az_upe, mFe]
        by_cases e1 : q = 169 <;> by_cases e2 : q = 186 <;> simp_all
      have hgo : az_C xs (d + 2) 113 [.ref 152, .int (nI cd)] (az_S, mF I (upd g y (g y - tkm m (g y))) (upd inc ch (inc ch + tkm m (g y))), J, c, z) (az_bk xs (d + 2) 126 78 81 [some (.ref 152), some (.int (nI cd)), some (.int (m - tkm m (g y))), some (.int (nI y)), some (.int (tkm m (g y)))] [] K) := by
        refine r113 hn (by rw [mFe]; simp [h7]) ?_
        have r1 : ∀ q, q ≠ 186 → q ≠ 169 → mF I (upd g y (g y - tkm m (g y))) (upd inc ch (inc ch + tkm m (g y))) q = I q := fun q h1 h2 => by rw [mFe, if_neg h1, if_neg h2]
        rw [r1 171 (by decide) (by decide), r1 168 (by decide) (by decide), r1 167 (by decide) (by decide)]
        have r2 : mF I (upd g y (g y - tkm m (g y))) (upd inc ch (inc ch + tkm m (g y))) 169 = upd g y (g y - tkm m (g y)) := by rw [mFe]; simp
        rw [r2]
        simp (maxDischargeDepth := 7) only [C126, th126, s126_0, s126_1, s126_4, s126_5, s126_6, s126_7, s126_8, s126_9, s126_12, s126_14, s126_17, s126_18, s126_19, s126_22, s126_23, s126_26, s126_27, s126_28, s126_29, s126_32, s126_33, s126_36, s126_37, s126_38, s126_41, s126_42, s126_44, s126_45, s126_48, s126_49, s126_50, s126_51, s126_53, s126_54, s126_55, s126_56, s126_58, s126_59, s126_60, s126_61, s126_64, s126_65, s126_68, s126_69, s126_70, s126_71, s126_72, s126_74, s126_75, s126_76, s126_77, s126_78, s126_81, s126_82, s126_85, g152_11, A161, cc113, g152_20, A169, g152_41, A186, g152_8, A158, az_ex, az_bk0, az_bk1, az_bkx, az_cat0, az_cati, az_catr, az_catl, az_vi, az_vr, az_bo0, az_bo1, az_boi, true_and, and_true, if_true, if_false, ne_eq, not_true_eq_false, not_false_eq_true, List.set_cons_zero, List.set_cons_succ, Nat.reduceAdd, Nat.reduceLeDiff, Nat.reduceEqDiff, ↓reduceIte, reduceCtorEq, Nat.reduceSub, Nat.reduceMul, Int32.reduceLT, Int32.reduceLE, Int32.reduceAdd, Int32.reduceMul, Int32.reduceSub, az_ne10, az_ne20, az_ne30, Nat.zero_le]
        by_cases h3 : (g y).toInt ≤ m.toInt
        · rw [List.pairwise_cons] at hs
          refine ih (upd g y (g y - tkm m (g y))) (upd dr y (tkm m (g y))) (upd inc ch (inc ch + tkm m (g y))) (m - tkm m (g y)) _ hs.2 (pOn_upd hm hnd (by omega)) (fun z hz => ?_) (by omega) ?_
          · rw [upde]
            split
            · omega
            · exact hg z hz
          · rw [upde, if_pos rfl, upd_upd]
            have e8 : inc ch + tkm m (g y) + (m - tkm m (g y) - (tk L (upd g y (g y - tkm m (g y)), upd dr y (tkm m (g y)), m - tkm m (g y))).2.2) = inc ch + (m - (tk L (upd g y (g y - tkm m (g y)), upd dr y (tkm m (g y)), m - tkm m (g y))).2.2) := by
              generalize (tk L (upd g y (g y - tkm m (g y)), upd dr y (tkm m (g y)), m - tkm m (g y))).2.2 = w
              generalize tkm m (g y) = v
              grind
            rw [e8]
            exact hK
        · have h4 : m - tkm m (g y) = 0 := Int32.toInt_inj.mp (by rw [a2]; show _ = (0 : Int); omega)
          have h5 : tkm m (g y) = m := Int32.toInt_inj.mp (by omega)
          rw [h4] at hK ⊢
          obtain ⟨e1, e2, -⟩ := tk_0 (L := L) (g := upd g y (g y - tkm m (g y))) (dr := upd dr y (tkm m (g y))) (fun z hz => by
            rw [upde]
            split
            · omega
            · exact hg z ((hm z).mp (List.mem_cons_of_mem _ hz)).1)
          rw [e1, e2, Int32.sub_zero] at hK
          refine r126x ?_
          rw [h5] at hK ⊢
          exact hK
      refine s126_13.mpr ?_
      by_cases h6 : g y < m
      · have h7' : tkm m (g y) = g y := if_pos h6
        rw [h7'] at hgo eI
        simp (maxDischargeDepth := 7) only [C126, th126, s126_0, s126_1, s126_4, s126_5, s126_6, s126_7, s126_8, s126_9, s126_12, s126_14, s126_17, s126_18, s126_19, s126_22, s126_23, s126_26, s126_27, s126_28, s126_29, s126_32, s126_33, s126_36, s126_37, s126_38, s126_41, s126_42, s126_44, s126_45, s126_48, s126_49, s126_50, s126_51, s126_53, s126_54, s126_55, s126_56, s126_58, s126_59, s126_60, s126_61, s126_64, s126_65, s126_68, s126_69, s126_70, s126_71, s126_72, s126_74, s126_75, s126_76, s126_77, s126_78, s126_81, s126_82, s126_85, g152_11, A161, cc113, g152_20, A169, g152_41, A186, g152_8, A158, az_ex, az_bk0, az_bk1, az_bkx, az_cat0, az_cati, az_catr, az_catl, az_vi, az_vr, az_bo0, az_bo1, az_boi, true_and, and_true, if_true, if_false, ne_eq, not_true_eq_false, not_false_eq_true, List.set_cons_zero, List.set_cons_succ, Nat.reduceAdd, Nat.reduceLeDiff, Nat.reduceEqDiff, ↓reduceIte, reduceCtorEq, Nat.reduceSub, Nat.reduceMul, Int32.reduceLT, Int32.reduceLE, Int32.reduceAdd, Int32.reduceMul, Int32.reduceSub, az_ne10, az_ne20, az_ne30, Nat.zero_le, h1, f1, f2, f4, mFe, bz_nlt, h6, nI_clamp (show y < 2 ^ 31 by omega), nI_clamp (show cd < 2 ^ 31 by omega), hch4, az_upe, ← hch]
        rw [eI]
        exact hgo
      · have h7' : tkm m (g y) = m := if_neg h6
        rw [h7'] at hgo eI
        simp (maxDischargeDepth := 7) only [C126, th126, s126_0, s126_1, s126_4, s126_5, s126_6, s126_7, s126_8, s126_9, s126_12, s126_14, s126_17, s126_18, s126_19, s126_22, s126_23, s126_26, s126_27, s126_28, s126_29, s126_32, s126_33, s126_36, s126_37, s126_38, s126_41, s126_42, s126_44, s126_45, s126_48, s126_49, s126_50, s126_51, s126_53, s126_54, s126_55, s126_56, s126_58, s126_59, s126_60, s126_61, s126_64, s126_65, s126_68, s126_69, s126_70, s126_71, s126_72, s126_74, s126_75, s126_76, s126_77, s126_78, s126_81, s126_82, s126_85, g152_11, A161, cc113, g152_20, A169, g152_41, A186, g152_8, A158, az_ex, az_bk0, az_bk1, az_bkx, az_cat0, az_cati, az_catr, az_catl, az_vi, az_vr, az_bo0, az_bo1, az_boi, true_and, and_true, if_true, if_false, ne_eq, not_true_eq_false, not_false_eq_true, List.set_cons_zero, List.set_cons_succ, Nat.reduceAdd, Nat.reduceLeDiff, Nat.reduceEqDiff, ↓reduceIte, reduceCtorEq, Nat.reduceSub, Nat.reduceMul, Int32.reduceLT, Int32.reduceLE, Int32.reduceAdd, Int32.reduceMul, Int32.reduceSub, az_ne10, az_ne20, az_ne30, Nat.zero_le, h1, f1, f2, f4, mFe, bz_nlt, h6, nI_clamp (show y < 2 ^ 31 by omega), nI_clamp (show cd < 2 ^ 31 by omega), hch4, az_upe, ← hch]
        rw [eI]
        exact hgo
theorem r126 {cd : Nat} {dr : Nat → Int32} {s : (Nat → Int32) × (Nat → Int32) × Int32} (hn : nl ≤ 60) (h7 : I 152 17 = nI nl) (hcd : cd < 12) (hch4 : az_in (I 158 cd) 4 = true) (hg : ∀ z, z < nl → 0 ≤ (I 169 z).toInt) (hm : 0 ≤ (I 161 cd).toInt) (hs : s = tk (ordR (ltb (I 171) (I 168)) (pOn (I 167) (I 169) (nI cd)) nl).reverse (I 169, dr, I 161 cd)) (hK : K (0, none, (az_S, mF I s.1 (upd (I 186) (I 158 cd).toNatClampNeg (I 186 (I 158 cd).toNatClampNeg + (I 161 cd - s.2.2))), J, c, z))) : az_C xs (d + 3) 126 [.ref 152, .int (nI cd)] (az_S, I, J, c, z) K := by
  have f2 : az_in (nI cd) 12 = true := by rw [az_in_nI (by omega)]; simp; omega
  obtain ⟨o1, o2⟩ := ordR_spec (lt := ltb (I 171) (I 168)) ltb_t ltb_tot (P := pOn (I 167) (I 169) (nI cd)) (n := nl)
  simp (maxDischargeDepth := 7) only [C126, th126, s126_0, s126_1, s126_4, s126_5, s126_6, s126_7, s126_8, s126_9, s126_12, s126_14, s126_17, s126_18, s126_19, s126_22, s126_23, s126_26, s126_27, s126_28, s126_29, s126_32, s126_33, s126_36, s126_37, s126_38, s126_41, s126_42, s126_44, s126_45, s126_48, s126_49, s126_50, s126_51, s126_53, s126_54, s126_55, s126_56, s126_58, s126_59, s126_60, s126_61, s126_64, s126_65, s126_68, s126_69, s126_70, s126_71, s126_72, s126_74, s126_75, s126_76, s126_77, s126_78, s126_81, s126_82, s126_85, g152_11, A161, cc113, g152_20, A169, g152_41, A186, g152_8, A158, az_ex, az_bk0, az_bk1, az_bkx, az_cat0, az_cati, az_catr, az_catl, az_vi, az_vr, az_bo0, az_bo1, az_boi, true_and, and_true, if_true, if_false, ne_eq, not_true_eq_false, not_false_eq_true, List.set_cons_zero, List.set_cons_succ, Nat.reduceAdd, Nat.reduceLeDiff, Nat.reduceEqDiff, ↓reduceIte, reduceCtorEq, Nat.reduceSub, Nat.reduceMul, Int32.reduceLT, Int32.reduceLE, Int32.reduceAdd, Int32.reduceMul, Int32.reduceSub, az_ne10, az_ne20, az_ne30, Nat.zero_le, f2, nI_clamp (show cd < 2 ^ 31 by omega)]
  refine r113 hn h7 ?_
  simp (maxDischargeDepth := 7) only [C126, th126, s126_0, s126_1, s126_4, s126_5, s126_6, s126_7, s126_8, s126_9, s126_12, s126_14, s126_17, s126_18, s126_19, s126_22, s126_23, s126_26, s126_27, s126_28, s126_29, s126_32, s126_33, s126_36, s126_37, s126_38, s126_41, s126_42, s126_44, s126_45, s126_48, s126_49, s126_50, s126_51, s126_53, s126_54, s126_55, s126_56, s126_58, s126_59, s126_60, s126_61, s126_64, s126_65, s126_68, s126_69, s126_70, s126_71, s126_72, s126_74, s126_75, s126_76, s126_77, s126_78, s126_81, s126_82, s126_85, g152_11, A161, cc113, g152_20, A169, g152_41, A186, g152_8, A158, az_ex, az_bk0, az_bk1, az_bkx, az_cat0, az_cati, az_catr, az_catl, az_vi, az_vr, az_bo0, az_bo1, az_boi, true_and, and_true, if_true, if_false, ne_eq, not_true_eq_false, not_false_eq_true, List.set_cons_zero, List.set_cons_succ, Nat.reduceAdd, Nat.reduceLeDiff, Nat.reduceEqDiff, ↓reduceIte, reduceCtorEq, Nat.reduceSub, Nat.reduceMul, Int32.reduceLT, Int32.reduceLE, Int32.reduceAdd, Int32.reduceMul, Int32.reduceSub, az_ne10, az_ne20, az_ne30, Nat.zero_le]
  have key := r126l (xs := xs) (d := d) (J := J) (c := c) (z := z) (K := K) hn h7 hcd hch4 rfl _ (I 169) dr (I 186) (I 161 cd) none (List.pairwise_reverse.mpr o2) (fun z => by rw [List.mem_reverse]; exact o1 z) hg hm (by rw [← hs]; exact hK)
  rw [mF_0] at key
  exact key
end
