/-! coins go back: the class -/
def pOp (op : Nat → Int32) (j : Nat) : Bool := decide (0 < op j)
def exI (I : Nat → Nat → Int32) (now : Int32) (j : Nat) : Bool := decide (az_nv (I 33 j) ≤ now)
section
variable {xs : az_X} {d : Nat} {nl np mo c z : Nat} {I I' : Nat → Nat → Int32} {J : Nat → Nat → Int64} {K : az_O → Prop}
/-- the row of the lots that a payment took from -/
theorem m29a {p : Nat} {m : Int32} {o5 o6 : Option Value} (hn : nl ≤ 60) (hp : p < 40) (h7 : I 28 7 = nI nl) (hE : ∀ j, j < nl → az_eb (I 33 j)) (hK : az_W xs (d + 3) 29 45 [some (.ref 28), some (.ref (112 + p)), some (.int m), some (.int (nI (fd (pio (ltb (fun j => az_nv (I 33 j)) (I 30)) (pOp (I (112 + p)))) nl 0 (I 34, 0)).2)), some (.int (nI nl)), o5, o6] [] (az_S, az_set I 34 (fd (pio (ltb (fun j => az_nv (I 33 j)) (I 30)) (pOp (I (112 + p)))) nl 0 (I 34, 0)).1, J, c, z) K) : az_W xs (d + 3) 29 13 [some (.ref 28), some (.ref (112 + p)), some (.int m), some (.int 0), some (.int 0), o5, o6] [] (az_S, I, J, c, z) K := by
  have hinv : ∀ j (s : (Nat → Int32) × Nat), j < nl → (s.2 ≤ j ∧ ∀ q, q < s.2 → ∃ y, y < nl ∧ s.1 q = nI y) → ((pio (ltb (fun j => az_nv (I 33 j)) (I 30)) (pOp (I (112 + p))) j s).2 ≤ j + 1 ∧ ∀ q, q < (pio (ltb (fun j => az_nv (I 33 j)) (I 30)) (pOp (I (112 + p))) j s).2 → ∃ y, y < nl ∧ (pio (ltb (fun j => az_nv (I 33 j)) (I 30)) (pOp (I (112 + p))) j s).1 q = nI y) := by
    rintro j s hj ⟨h1, h2⟩
    unfold pio
    split
    · exact ⟨by dsimp only; omega, fun q hq => pir_val (V := fun v => ∃ y, y < nl ∧ v = nI y) s.2 s.1 h2 ⟨j, hj, rfl⟩ q hq⟩
    · exact ⟨by omega, h2⟩
  have f9 : (112 + p = 34) = False := by simp; omega
  have key := az_loopB (n := nl) (h := pio (ltb (fun j => az_nv (I 33 j)) (I 30)) (pOp (I (112 + p)))) (Inv := fun j s => s.2 ≤ j ∧ ∀ q, q < s.2 → ∃ y, y < nl ∧ s.1 q = nI y) (W := fun j (s : (Nat → Int32) × Nat) => az_W xs (d + 3) 29 13 [some (.ref 28), some (.ref (112 + p)), some (.int m), some (.int (nI s.2)), some (.int (nI j)), o5, o6] [] (az_S, az_set I 34 s.1, J, c, z) K) hinv ?_ nl 0 (I 34, 0) (Nat.zero_add _) ⟨Nat.le_refl _, fun q hq => absurd hq (by simp)⟩ ?_
  · dsimp only at key
    rw [az_set_self] at key
    exact key
  · rintro j s hj ⟨h1, h2⟩ hw
    have f1 : az_in (nI j) 60 = true := by rw [az_in_nI (by omega)]; simp; omega
    have f2 : (nI nl ≤ nI j) = False := by rw [bz_le (by omega) (by omega)]; simp; omega
    refine s29_13.mpr ?_
    unfold pio pOp at hw
    by_cases hg : 0 < I (112 + p) j
    · simp only [hg, decide_true, if_true] at hw
      simp (maxDischargeDepth := 7) only [C29, th29, s29_0, s29_1, s29_4, s29_5, s29_8, s29_9, s29_10, s29_11, s29_15, s29_16, s29_19, s29_22, s29_23, s29_25, s29_26, s29_29, s29_30, s29_32, s29_33, s29_36, s29_39, s29_42, s29_46, s29_48, s29_49, s29_50, s29_51, s29_53, s29_55, s29_58, s29_59, s29_62, s29_64, s29_65, s29_67, s29_68, s29_71, s29_73, s29_75, s29_76, s29_78, s29_79, s29_82, s29_83, s29_85, s29_86, s29_89, s29_91, s29_92, s29_93, s29_95, s29_98, s29_101, g28_6, A35, cc88, g28_7, cc26, g28_5, A34, az_ex, az_bk0, az_bk1, az_bkx, az_cat0, az_cati, az_catr, az_catl, az_vi, az_vr, az_bo0, az_bo1, az_boi, true_and, and_true, if_true, if_false, ne_eq, not_true_eq_false, not_false_eq_true, List.set_cons_zero, List.set_cons_succ, Nat.reduceAdd, Nat.reduceLeDiff, Nat.reduceEqDiff, ↓reduceIte, reduceCtorEq, Nat.reduceSub, Nat.reduceMul, Int32.reduceLT, Int32.reduceLE, Int32.reduceAdd, Int32.reduceMul, Int32.reduceSub, az_ne10, az_ne20, az_ne30, Nat.zero_le, az_sete, h7, AR111 hp, f1, f2, f9, hg, bz_nlt, c26 hn hj hE (show s.2 < 60 by omega) h2, nI_1, nI_clamp (show j < 2 ^ 31 by omega)]
      exact hw
    · simp only [hg, decide_false, Bool.false_eq_true, if_false] at hw
      simp (maxDischargeDepth := 7) only [C29, th29, s29_0, s29_1, s29_4, s29_5, s29_8, s29_9, s29_10, s29_11, s29_15, s29_16, s29_19, s29_22, s29_23, s29_25, s29_26, s29_29, s29_30, s29_32, s29_33, s29_36, s29_39, s29_42, s29_46, s29_48, s29_49, s29_50, s29_51, s29_53, s29_55, s29_58, s29_59, s29_62, s29_64, s29_65, s29_67, s29_68, s29_71, s29_73, s29_75, s29_76, s29_78, s29_79, s29_82, s29_83, s29_85, s29_86, s29_89, s29_91, s29_92, s29_93, s29_95, s29_98, s29_101, g28_6, A35, cc88, g28_7, cc26, g28_5, A34, az_ex, az_bk0, az_bk1, az_bkx, az_cat0, az_cati, az_catr, az_catl, az_vi, az_vr, az_bo0, az_bo1, az_boi, true_and, and_true, if_true, if_false, ne_eq, not_true_eq_false, not_false_eq_true, List.set_cons_zero, List.set_cons_succ, Nat.reduceAdd, Nat.reduceLeDiff, Nat.reduceEqDiff, ↓reduceIte, reduceCtorEq, Nat.reduceSub, Nat.reduceMul, Int32.reduceLT, Int32.reduceLE, Int32.reduceAdd, Int32.reduceMul, Int32.reduceSub, az_ne10, az_ne20, az_ne30, Nat.zero_le, az_sete, h7, AR111 hp, f1, f2, f9, hg, bz_nlt, nI_1, nI_clamp (show j < 2 ^ 31 by omega)]
      exact hw
  · have f3 : (nI nl ≤ nI nl) = True := by rw [bz_le (by omega) (by omega)]; simp
    refine s29_13.mpr ?_
    simp (maxDischargeDepth := 7) only [C29, th29, s29_0, s29_1, s29_4, s29_5, s29_8, s29_9, s29_10, s29_11, s29_15, s29_16, s29_19, s29_22, s29_23, s29_25, s29_26, s29_29, s29_30, s29_32, s29_33, s29_36, s29_39, s29_42, s29_46, s29_48, s29_49, s29_50, s29_51, s29_53, s29_55, s29_58, s29_59, s29_62, s29_64, s29_65, s29_67, s29_68, s29_71, s29_73, s29_75, s29_76, s29_78, s29_79, s29_82, s29_83, s29_85, s29_86, s29_89, s29_91, s29_92, s29_93, s29_95, s29_98, s29_101, g28_6, A35, cc88, g28_7, cc26, g28_5, A34, az_ex, az_bk0, az_bk1, az_bkx, az_cat0, az_cati, az_catr, az_catl, az_vi, az_vr, az_bo0, az_bo1, az_boi, true_and, and_true, if_true, if_false, ne_eq, not_true_eq_false, not_false_eq_true, List.set_cons_zero, List.set_cons_succ, Nat.reduceAdd, Nat.reduceLeDiff, Nat.reduceEqDiff, ↓reduceIte, reduceCtorEq, Nat.reduceSub, Nat.reduceMul, Int32.reduceLT, Int32.reduceLE, Int32.reduceAdd, Int32.reduceMul, Int32.reduceSub, az_ne10, az_ne20, az_ne30, Nat.zero_le, az_sete, h7, f3]
    exact hK
theorem m29b {p : Nat} {cn hd : Int32} (hn : nl ≤ 60) (hp : p < 40) (f : Nat → Int32) : ∀ (R : List Nat) (dr : Nat → Int32) (m : Int32) (pl : Int32) (o6 : Option Value), pl = nI R.length - 1 → (∀ z, z ∈ R → z < nl) → R.length ≤ 60 → enc f R → K (0, none, (az_S, az_set (az_set I 34 f) 35 (gb R (I (112 + p)) (dr, m)).1, J, c, z)) → az_W xs (d + 3) 29 53 [some (.ref 28), some (.ref (112 + p)), some (.int cn), some (.int hd), some (.int m), some (.int pl), o6] [] (az_S, az_set (az_set I 34 f) 35 dr, J, c, z) K := by
  have g1 : (112 + p = 34) = False := by simp; omega
  have g2 : (112 + p = 35) = False := by simp; omega
  intro R
  induction R with
  | nil =>
    intro dr m pl o6 hpl _ _ _ hK
    have e1 : (nI ([] : List Nat).length - 1 < 0) = True := by decide
    subst hpl
    refine s29_53.mpr ?_
    simp (maxDischargeDepth := 7) only [C29, th29, s29_0, s29_1, s29_4, s29_5, s29_8, s29_9, s29_10, s29_11, s29_15, s29_16, s29_19, s29_22, s29_23, s29_25, s29_26, s29_29, s29_30, s29_32, s29_33, s29_36, s29_39, s29_42, s29_46, s29_48, s29_49, s29_50, s29_51, s29_55, s29_58, s29_59, s29_62, s29_64, s29_65, s29_67, s29_68, s29_71, s29_73, s29_75, s29_76, s29_78, s29_79, s29_82, s29_83, s29_85, s29_86, s29_89, s29_91, s29_92, s29_93, s29_95, s29_98, s29_101, g28_6, A35, cc88, g28_7, cc26, g28_5, A34, az_ex, az_bk0, az_bk1, az_bkx, az_cat0, az_cati, az_catr, az_catl, az_vi, az_vr, az_bo0, az_bo1, az_boi, true_and, and_true, if_true, if_false, ne_eq, not_true_eq_false, not_false_eq_true, List.set_cons_zero, List.set_cons_succ, Nat.reduceAdd, Nat.reduceLeDiff, Nat.reduceEqDiff, ↓reduceIte, reduceCtorEq, Nat.reduceSub, Nat.reduceMul, Int32.reduceLT, Int32.reduceLE, Int32.reduceAdd, Int32.reduceMul, Int32.reduceSub, az_ne10, az_ne20, az_ne30, Nat.zero_le, e1]
    exact hK
  | cons y R ih =>
    intro dr m pl o6 hpl hz hlen he hK
    have hy := hz y List.mem_cons_self
    rw [List.length_cons] at hlen
    have e1 : pl = nI R.length := by rw [hpl, List.length_cons, nI_pred]
    subst e1
    have f0 : (nI R.length < 0) = False := by rw [show (0 : Int32) = nI 0 from rfl, bz_lt (by omega) (by omega)]; simp
    have f1 : az_in (nI R.length) 60 = true := by rw [az_in_nI (by omega)]; simp; omega
    have f2 : az_in (nI y) 60 = true := by rw [az_in_nI (by omega)]; simp; omega
    have e2 : f R.length = nI y := he.1
    have e3 : nI R.length + -1 = nI R.length - 1 := (Int32.sub_eq_add_neg _ _).symm
    have e4 : gb (y :: R) (I (112 + p)) (dr, m) = gb R (I (112 + p)) (upd dr y (tkm m (I (112 + p) y)), m - tkm m (I (112 + p) y)) := rfl
    rw [e4] at hK
    refine s29_53.mpr ?_
    have hgo := ih (upd dr y (tkm m (I (112 + p) y))) (m - tkm m (I (112 + p) y)) (nI R.length - 1) (some (.int (nI y))) rfl (fun z h => hz z (List.mem_cons_of_mem _ h)) (by omega) he.2 hK
    unfold tkm at hgo
    simp (maxDischargeDepth := 7) only [C29, th29, s29_0, s29_1, s29_4, s29_5, s29_8, s29_9, s29_10, s29_11, s29_15, s29_16, s29_19, s29_22, s29_23, s29_25, s29_26, s29_29, s29_30, s29_32, s29_33, s29_36, s29_39, s29_42, s29_46, s29_48, s29_49, s29_50, s29_51, s29_55, s29_58, s29_59, s29_62, s29_64, s29_65, s29_67, s29_68, s29_71, s29_73, s29_75, s29_76, s29_78, s29_79, s29_82, s29_83, s29_85, s29_86, s29_89, s29_91, s29_92, s29_93, s29_95, s29_98, s29_101, g28_6, A35, cc88, g28_7, cc26, g28_5, A34, az_ex, az_bk0, az_bk1, az_bkx, az_cat0, az_cati, az_catr, az_catl, az_vi, az_vr, az_bo0, az_bo1, az_boi, true_and, and_true, if_true, if_false, ne_eq, not_true_eq_false, not_false_eq_true, List.set_cons_zero, List.set_cons_succ, Nat.reduceAdd, Nat.reduceLeDiff, Nat.reduceEqDiff, ↓reduceIte, reduceCtorEq, Nat.reduceSub, Nat.reduceMul, Int32.reduceLT, Int32.reduceLE, Int32.reduceAdd, Int32.reduceMul, Int32.reduceSub, az_ne10, az_ne20, az_ne30, Nat.zero_le, az_sete, az_set_up, AR111 hp, g1, g2, f0, f1, f2, e2, e3, upd_at, nI_clamp (show R.length < 2 ^ 31 by omega), nI_clamp (show y < 2 ^ 31 by omega)]
    exact hgo
theorem c29 {p : Nat} {m : Int32} (hn : nl ≤ 60) (hp : p < 40) (h7 : I 28 7 = nI nl) (hE : ∀ j, j < nl → az_eb (I 33 j)) (hK : ∀ f, K (0, none, (az_S, az_set (az_set I 34 f) 35 (gb (ordR (ltb (fun j => az_nv (I 33 j)) (I 30)) (pOp (I (112 + p))) nl) (I (112 + p)) ((fun j => if j < 60 then 0 else I 35 j), m)).1, J, c, z))) : az_C xs (d + 4) 29 [.ref 28, .ref (112 + p), .int m] (az_S, I, J, c, z) K := by
  have g2 : (112 + p = 35) = False := by simp; omega
  obtain ⟨e1, e2⟩ := pio_spec (lt := ltb (fun j => az_nv (I 33 j)) (I 30)) ltb_t ltb_tot (P := pOp (I (112 + p))) (show nl < 2 ^ 31 by omega) (I 34)
  obtain ⟨o1, o2⟩ := ordR_spec (lt := ltb (fun j => az_nv (I 33 j)) (I 30)) ltb_t ltb_tot (P := pOp (I (112 + p))) (n := nl)
  have hlen := nd_len (srt_nodup (lt := ltb (fun j => az_nv (I 33 j)) (I 30)) ltb_ir o2) (fun z hz => ((o1 z).mp hz).1)
  simp (maxDischargeDepth := 7) only [C29, th29, s29_0, s29_1, s29_4, s29_5, s29_8, s29_9, s29_10, s29_11, s29_15, s29_16, s29_19, s29_22, s29_23, s29_25, s29_26, s29_29, s29_30, s29_32, s29_33, s29_36, s29_39, s29_42, s29_45, s29_46, s29_48, s29_49, s29_50, s29_51, s29_53, s29_55, s29_58, s29_59, s29_62, s29_64, s29_65, s29_67, s29_68, s29_71, s29_73, s29_75, s29_76, s29_78, s29_79, s29_82, s29_83, s29_85, s29_86, s29_89, s29_91, s29_92, s29_93, s29_95, s29_98, s29_101, g28_6, A35, cc88, g28_7, cc26, g28_5, A34, az_ex, az_bk0, az_bk1, az_bkx, az_cat0, az_cati, az_catr, az_catl, az_vi, az_vr, az_bo0, az_bo1, az_boi, true_and, and_true, if_true, if_false, ne_eq, not_true_eq_false, not_false_eq_true, List.set_cons_zero, List.set_cons_succ, Nat.reduceAdd, Nat.reduceLeDiff, Nat.reduceEqDiff, ↓reduceIte, reduceCtorEq, Nat.reduceSub, Nat.reduceMul, Int32.reduceLT, Int32.reduceLE, Int32.reduceAdd, Int32.reduceMul, Int32.reduceSub, az_ne10, az_ne20, az_ne30, Nat.zero_le, c143 (a := 35) (n := 60) (v := 0) L35 (fun i => A35) (by omega)]
  obtain ⟨I1, hI1⟩ : ∃ q, q = az_set I 35 (fun j => if j < 60 then 0 else I 35 j) := ⟨_, rfl⟩
  rw [← hI1]
  have i1 : ∀ a, a ≠ 35 → I1 a = I a := fun a h => by rw [hI1, az_set_ne h]
  refine m29a hn hp (by rw [i1 28 (by decide)]; exact h7) (by rw [i1 33 (by decide)]; exact hE) ?_
  rw [i1 33 (by decide), i1 30 (by decide), i1 (112 + p) (by omega), i1 34 (by decide)]
  generalize hF : fd (pio (ltb (fun j => az_nv (I 33 j)) (I 30)) (pOp (I (112 + p)))) nl 0 (I 34, 0) = F at *
  simp (maxDischargeDepth := 7) only [C29, th29, s29_0, s29_1, s29_4, s29_5, s29_8, s29_9, s29_10, s29_11, s29_15, s29_16, s29_19, s29_22, s29_23, s29_25, s29_26, s29_29, s29_30, s29_32, s29_33, s29_36, s29_39, s29_42, s29_45, s29_46, s29_48, s29_49, s29_50, s29_51, s29_55, s29_58, s29_59, s29_62, s29_64, s29_65, s29_67, s29_68, s29_71, s29_73, s29_75, s29_76, s29_78, s29_79, s29_82, s29_83, s29_85, s29_86, s29_89, s29_91, s29_92, s29_93, s29_95, s29_98, s29_101, g28_6, A35, cc88, g28_7, cc26, g28_5, A34, az_ex, az_bk0, az_bk1, az_bkx, az_cat0, az_cati, az_catr, az_catl, az_vi, az_vr, az_bo0, az_bo1, az_boi, true_and, and_true, if_true, if_false, ne_eq, not_true_eq_false, not_false_eq_true, List.set_cons_zero, List.set_cons_succ, Nat.reduceAdd, Nat.reduceLeDiff, Nat.reduceEqDiff, ↓reduceIte, reduceCtorEq, Nat.reduceSub, Nat.reduceMul, Int32.reduceLT, Int32.reduceLE, Int32.reduceAdd, Int32.reduceMul, Int32.reduceSub, az_ne10, az_ne20, az_ne30, Nat.zero_le]
  have key := m29b (xs := xs) (d := d) (I := I) (J := J) (c := c) (z := z) (K := K) (cn := m) (hd := nI F.2) hn hp F.1 (ordR (ltb (fun j => az_nv (I 33 j)) (I 30)) (pOp (I (112 + p))) nl) (fun j => if j < 60 then 0 else I 35 j) m (nI F.2 - 1) none (by rw [e1]) (fun z hz => ((o1 z).mp hz).1) (by omega) e2 (hK F.1)
  refine az_W_cg rfl ?_ key
  rw [hI1]
  funext q
  simp only [az_sete]
  by_cases h1 : q = 34 <;> by_cases h2 : q = 35 <;> simp_all
theorem c24 {j : Nat} {now : Nat} (hj : j < 60) (hE : az_eb (I 33 j)) (hm : now ≤ 240) : az_C xs (d + 1) 24 [.ref 28, .int (nI j), .int (nI now)] (az_S, I, J, c, z) K ↔ K (0, some (.int (if exI I (nI now) j = true then 1 else 0)), (az_S, I, J, c, z)) := by
  have f1 : az_in (nI j) 60 = true := by rw [az_in_nI (by omega)]; simp; omega
  unfold exI
  rcases hE with h | ⟨e, he, h⟩
  · have h1 : (az_nv (I 33 j) ≤ nI now) = False := by
      rw [h, az_nv1]
      apply eq_false
      rw [Int32.le_iff_toInt_le, nI_toInt (by omega), show (100000 : Int32).toInt = 100000 by decide]
      omega
    simp (maxDischargeDepth := 7) only [C24, th24, s24_0, s24_1, s24_4, s24_5, s24_6, s24_7, s24_10, s24_11, s24_12, s24_15, s24_16, s24_17, s24_20, s24_21, s24_24, s24_25, g28_4, A33, az_ex, az_bk0, az_bk1, az_bkx, az_cat0, az_cati, az_catr, az_catl, az_vi, az_vr, az_bo0, az_bo1, az_boi, true_and, and_true, if_true, if_false, ne_eq, not_true_eq_false, not_false_eq_true, List.set_cons_zero, List.set_cons_succ, Nat.reduceAdd, Nat.reduceLeDiff, Nat.reduceEqDiff, ↓reduceIte, reduceCtorEq, Nat.reduceSub, Nat.reduceMul, Int32.reduceLT, Int32.reduceLE, Int32.reduceAdd, Int32.reduceMul, Int32.reduceSub, az_ne10, az_ne20, az_ne30, Nat.zero_le, f1, h, nI_clamp (show j < 2 ^ 31 by omega)]
    rw [h] at h1
    simp [h1]
  · have h1 : (az_nv (I 33 j) ≤ nI now) = (e ≤ now) := by rw [h, az_nvn he, bz_le (by omega) (by omega)]
    have h2 : (nI now < nI e) = (now < e) := bz_lt (by omega) (by omega)
    by_cases h3 : e ≤ now
    · simp (maxDischargeDepth := 7) only [C24, th24, s24_0, s24_1, s24_4, s24_5, s24_6, s24_7, s24_10, s24_11, s24_12, s24_15, s24_16, s24_17, s24_20, s24_21, s24_24, s24_25, g28_4, A33, az_ex, az_bk0, az_bk1, az_bkx, az_cat0, az_cati, az_catr, az_catl, az_vi, az_vr, az_bo0, az_bo1, az_boi, true_and, and_true, if_true, if_false, ne_eq, not_true_eq_false, not_false_eq_true, List.set_cons_zero, List.set_cons_succ, Nat.reduceAdd, Nat.reduceLeDiff, Nat.reduceEqDiff, ↓reduceIte, reduceCtorEq, Nat.reduceSub, Nat.reduceMul, Int32.reduceLT, Int32.reduceLE, Int32.reduceAdd, Int32.reduceMul, Int32.reduceSub, az_ne10, az_ne20, az_ne30, Nat.zero_le, f1, h, bz_n2 he, h2, show (now < e) = False by simp; omega, nI_clamp (show j < 2 ^ 31 by omega)]
      rw [h] at h1
      simp [h1, h3]
    · simp (maxDischargeDepth := 7) only [C24, th24, s24_0, s24_1, s24_4, s24_5, s24_6, s24_7, s24_10, s24_11, s24_12, s24_15, s24_16, s24_17, s24_20, s24_21, s24_24, s24_25, g28_4, A33, az_ex, az_bk0, az_bk1, az_bkx, az_cat0, az_cati, az_catr, az_catl, az_vi, az_vr, az_bo0, az_bo1, az_boi, true_and, and_true, if_true, if_false, ne_eq, not_true_eq_false, not_false_eq_true, List.set_cons_zero, List.set_cons_succ, Nat.reduceAdd, Nat.reduceLeDiff, Nat.reduceEqDiff, ↓reduceIte, reduceCtorEq, Nat.reduceSub, Nat.reduceMul, Int32.reduceLT, Int32.reduceLE, Int32.reduceAdd, Int32.reduceMul, Int32.reduceSub, az_ne10, az_ne20, az_ne30, Nat.zero_le, f1, h, bz_n2 he, h2, show (now < e) = True by simp; omega, nI_clamp (show j < 2 ^ 31 by omega)]
      rw [h] at h1
      simp [h1, h3]
end
