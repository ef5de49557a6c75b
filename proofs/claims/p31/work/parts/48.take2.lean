/-! taking coins, by both -/
/-- the class's cells while it takes coins -/
def tS (I : Nat → Nat → Int32) (f dr g : Nat → Int32) : Nat → Nat → Int32 := az_set (az_set (az_set I 34 f) 35 dr) 31 g
theorem tSe {I : Nat → Nat → Int32} {f dr g : Nat → Int32} {b : Nat} : tS I f dr g b = if b = 31 then g else if b = 35 then dr else if b = 34 then f else I b := by
  unfold tS
  simp only [az_sete]
theorem gD_e {L : List Nat} {i : Nat} (h : i < L.length) : L.getD i 0 = L[i] := by simp [List.getD, h]
theorem nd_len {L : List Nat} {n : Nat} (hnd : L.Nodup) (h : ∀ z, z ∈ L → z < n) : L.length ≤ n :=
  fb_holes n L.length (fun i => L.getD i 0) (fun i hi => by
    rw [gD_e hi]
    exact h _ (List.getElem_mem hi)) (fun i j hij hj => by
    rw [gD_e (by omega), gD_e hj]
    exact List.pairwise_iff_getElem.mp hnd i j (by omega) hj hij)
section
variable {xs : az_X} {d : Nat} {nl c z : Nat} {I : Nat → Nat → Int32} {J : Nat → Nat → Int64} {K : az_O → Prop}
theorem c28 {x m : Int32} {s : (Nat → Int32) × (Nat → Int32) × Int32} (hn : nl ≤ 60) (h7 : I 28 7 = nI nl) (hE : ∀ j, j < nl → az_eb (I 33 j)) (hs : s = tk (ordR (ltb (fun j => az_nv (I 33 j)) (I 30)) (pOn (I 29) (I 31) x) nl).reverse (I 31, (fun j => if j < 60 then 0 else I 35 j), m)) (hK : ∀ f, K (0, none, (az_S, tS I f s.2.1 s.1, J, c, z))) : az_C xs (d + 4) 28 [.ref 28, .int x, .int m] (az_S, I, J, c, z) K := by
  have q1 : ∀ K' : az_O → Prop, az_C xs (d + 3) 27 [.ref 28, .int x] (az_S, az_set I 35 (fun j => if j < 60 then 0 else I 35 j), J, c, z) K' ↔ K' (0, some (.int (nI (fd (pio (ltb (fun j => az_nv (I 33 j)) (I 30)) (pOn (I 29) (I 31) x)) nl 0 (I 34, 0)).2)), (az_S, az_set (az_set I 35 (fun j => if j < 60 then 0 else I 35 j)) 34 (fd (pio (ltb (fun j => az_nv (I 33 j)) (I 30)) (pOn (I 29) (I 31) x)) nl 0 (I 34, 0)).1, J, c, z)) := fun K' => by
    have := c27 (xs := xs) (d := d) (J := J) (c := c) (z := z) (I := az_set I 35 (fun j => if j < 60 then 0 else I 35 j)) (K := K') (x := x) hn (by simpa [az_sete] using h7) (by simpa [az_sete] using hE)
    simpa [az_sete] using this
  obtain ⟨e1, e2⟩ := pio_spec (lt := ltb (fun j => az_nv (I 33 j)) (I 30)) ltb_t ltb_tot (P := pOn (I 29) (I 31) x) (show nl < 2 ^ 31 by omega) (I 34)
  obtain ⟨o1, o2⟩ := ordR_spec (lt := ltb (fun j => az_nv (I 33 j)) (I 30)) ltb_t ltb_tot (P := pOn (I 29) (I 31) x) (n := nl)
  have hlen : (ordR (ltb (fun j => az_nv (I 33 j)) (I 30)) (pOn (I 29) (I 31) x) nl).length ≤ 60 := Nat.le_trans (nd_len (srt_nodup (lt := ltb (fun j => az_nv (I 33 j)) (I 30)) ltb_ir o2) (fun z hz => ((o1 z).mp hz).1)) hn
  generalize hR : ordR (ltb (fun j => az_nv (I 33 j)) (I 30)) (pOn (I 29) (I 31) x) nl = R at *
  have hget : ∀ j, j < R.length → (fd (pio (ltb (fun j => az_nv (I 33 j)) (I 30)) (pOn (I 29) (I 31) x)) nl 0 (I 34, 0)).1 j = nI (R.reverse.getD j 0) := fun j hj => enc_get e2 j hj
  have hlt : ∀ j, j < R.length → R.reverse.getD j 0 < nl := fun j hj => by
    have h1 : j < R.reverse.length := by simpa using hj
    rw [gD_e h1]
    exact ((o1 _).mp (List.mem_reverse.mp (List.getElem_mem h1))).1
  generalize hF : fd (pio (ltb (fun j => az_nv (I 33 j)) (I 30)) (pOn (I 29) (I 31) x)) nl 0 (I 34, 0) = F at *
  have key := az_loopB (n := R.length) (h := fun j s => tkf (R.reverse.getD j 0) s) (Inv := fun _ _ => True) (W := fun j s => ∀ o6 o7, az_W xs (d + 3) 28 20 [some (.ref 28), some (.int x), some (.int m), some (.int (nI R.length)), some (.int s.2.2), some (.int (nI j)), o6, o7] [] (az_S, tS I F.1 s.2.1 s.1, J, c, z) K) (fun _ _ _ _ => trivial) ?_ R.length 0 (I 31, (fun j => if j < 60 then 0 else I 35 j), m) (Nat.zero_add _) trivial ?_
  · simp (maxDischargeDepth := 7) only [C28, th28, s28_0, s28_1, s28_4, s28_5, s28_8, s28_9, s28_10, s28_13, s28_14, s28_15, s28_17, s28_18, s28_22, s28_23, s28_26, s28_27, s28_30, s28_32, s28_33, s28_35, s28_37, s28_38, s28_41, s28_43, s28_44, s28_47, s28_49, s28_50, s28_53, s28_55, s28_56, s28_57, s28_59, s28_60, s28_61, s28_62, s28_65, s28_67, s28_69, s28_70, s28_72, s28_74, s28_75, s28_77, s28_80, s28_83, g28_6, A35, cc88, cc27, g28_5, A34, g28_2, A31, az_ex, az_bk0, az_bk1, az_bkx, az_cat0, az_cati, az_catr, az_catl, az_vi, az_vr, az_bo0, az_bo1, az_boi, true_and, and_true, if_true, if_false, ne_eq, not_true_eq_false, not_false_eq_true, List.set_cons_zero, List.set_cons_succ, Nat.reduceAdd, Nat.reduceLeDiff, Nat.reduceEqDiff, ↓reduceIte, reduceCtorEq, Nat.reduceSub, Nat.reduceMul, Int32.reduceLT, Int32.reduceLE, Int32.reduceAdd, Int32.reduceMul, Int32.reduceSub, az_ne10, az_ne20, az_ne30, Nat.zero_le, c143 (a := 35) (n := 60) (v := 0) L35 (fun i => A35) (by omega), q1, e1]
    refine az_W_cg ?_ ?_ (key none none)
    · rfl
    · funext q
      simp only [az_sete, tSe]
      by_cases e1 : q = 31 <;> by_cases e2 : q = 35 <;> by_cases e3 : q = 34 <;> simp_all
  · intro j s hj _ hw o6 o7
    have f1 : az_in (nI j) 60 = true := by rw [az_in_nI (by omega)]; simp; omega
    have f2 : (nI R.length ≤ nI j) = False := by rw [bz_le (by omega) (by omega)]; simp; omega
    have f4 := hlt j hj
    have f5 := hget j hj
    generalize R.reverse.getD j 0 = y at *
    have f6 : az_in (nI y) 60 = true := by rw [az_in_nI (by omega)]; simp; omega
    refine s28_20.mpr ?_
    unfold tkf tkm at hw
    simp (maxDischargeDepth := 7) only [C28, th28, s28_0, s28_1, s28_4, s28_5, s28_8, s28_9, s28_10, s28_13, s28_14, s28_15, s28_17, s28_18, s28_22, s28_23, s28_26, s28_27, s28_30, s28_32, s28_33, s28_35, s28_37, s28_38, s28_41, s28_43, s28_44, s28_47, s28_49, s28_50, s28_53, s28_55, s28_56, s28_57, s28_59, s28_60, s28_61, s28_62, s28_65, s28_67, s28_69, s28_70, s28_72, s28_74, s28_75, s28_77, s28_80, s28_83, g28_6, A35, cc88, cc27, g28_5, A34, g28_2, A31, az_ex, az_bk0, az_bk1, az_bkx, az_cat0, az_cati, az_catr, az_catl, az_vi, az_vr, az_bo0, az_bo1, az_boi, true_and, and_true, if_true, if_false, ne_eq, not_true_eq_false, not_false_eq_true, List.set_cons_zero, List.set_cons_succ, Nat.reduceAdd, Nat.reduceLeDiff, Nat.reduceEqDiff, ↓reduceIte, reduceCtorEq, Nat.reduceSub, Nat.reduceMul, Int32.reduceLT, Int32.reduceLE, Int32.reduceAdd, Int32.reduceMul, Int32.reduceSub, az_ne10, az_ne20, az_ne30, Nat.zero_le, az_upe, tSe, f1, f2, f5, f6, nI_1, nI_clamp (show j < 2 ^ 31 by omega), nI_clamp (show y < 2 ^ 31 by omega)]
    refine az_W_cg ?_ ?_ (hw ?_ ?_)
    · rfl
    · funext q
      simp only [az_upe, tSe]
      by_cases e1 : q = 31 <;> by_cases e2 : q = 35 <;> by_cases e3 : q = 34 <;> simp_all
  · intro o6 o7
    have f3 : (nI R.length ≤ nI R.length) = True := by rw [bz_le (by omega) (by omega)]; simp
    have e5 : fd (fun j s => tkf (R.reverse.getD j 0) s) R.length 0 (I 31, (fun j => if j < 60 then 0 else I 35 j), m) = s := by
      have := fd_fl (fun x s => tkf x s) R.reverse [] (I 31, (fun j => if j < 60 then 0 else I 35 j), m)
      rw [List.nil_append, List.length_reverse] at this
      rw [hs]
      exact this
    rw [e5]
    refine s28_20.mpr ?_
    simp (maxDischargeDepth := 7) only [C28, th28, s28_0, s28_1, s28_4, s28_5, s28_8, s28_9, s28_10, s28_13, s28_14, s28_15, s28_17, s28_18, s28_22, s28_23, s28_26, s28_27, s28_30, s28_32, s28_33, s28_35, s28_37, s28_38, s28_41, s28_43, s28_44, s28_47, s28_49, s28_50, s28_53, s28_55, s28_56, s28_57, s28_59, s28_60, s28_61, s28_62, s28_65, s28_67, s28_69, s28_70, s28_72, s28_74, s28_75, s28_77, s28_80, s28_83, g28_6, A35, cc88, cc27, g28_5, A34, g28_2, A31, az_ex, az_bk0, az_bk1, az_bkx, az_cat0, az_cati, az_catr, az_catl, az_vi, az_vr, az_bo0, az_bo1, az_boi, true_and, and_true, if_true, if_false, ne_eq, not_true_eq_false, not_false_eq_true, List.set_cons_zero, List.set_cons_succ, Nat.reduceAdd, Nat.reduceLeDiff, Nat.reduceEqDiff, ↓reduceIte, reduceCtorEq, Nat.reduceSub, Nat.reduceMul, Int32.reduceLT, Int32.reduceLE, Int32.reduceAdd, Int32.reduceMul, Int32.reduceSub, az_ne10, az_ne20, az_ne30, Nat.zero_le, f3]
    exact hK _
end
