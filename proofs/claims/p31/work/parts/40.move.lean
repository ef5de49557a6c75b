/-! all of one card to another -/
def fmva (a b : Int32) (j : Nat) (f : Nat → Int32) : Nat → Int32 := if f j = a then upd f j b else f
theorem az_set_self {I : Nat → Nat → Int32} {a : Nat} : az_set I a (I a) = I := by
  funext b
  rw [az_sete]
  split
  · rename_i h; rw [h]
  · rfl
theorem az_set_up {I : Nat → Nat → Int32} {a k : Nat} {f : Nat → Int32} {x : Int32} : az_up (az_set I a f) a k x = az_set I a (upd f k x) := by
  funext b
  rw [az_upe, az_sete, az_sete, az_sete, if_pos rfl]
  split <;> rfl
section
variable {xs : az_X} {d : Nat} {mo nc nl np c z : Nat} {I : Nat → Nat → Int32} {J : Nat → Nat → Int64} {K : az_O → Prop}
theorem c23 {a b : Int32} (hn : nl ≤ 60) (h7 : I 28 7 = nI nl) : az_C xs (d + 1) 23 [.ref 28, .int a, .int b] (az_S, I, J, c, z) K ↔ K (0, none, (az_S, az_set I 29 (fd (fmva a b) nl 0 (I 29)), J, c, z)) := by
  have step : ∀ j f, j < nl → (az_W xs d 23 2 [some (.ref 28), some (.int a), some (.int b), some (.int (nI j))] [] (az_S, az_set I 29 f, J, c, z) K ↔ az_W xs d 23 2 [some (.ref 28), some (.int a), some (.int b), some (.int (nI (j + 1)))] [] (az_S, az_set I 29 (fmva a b j f), J, c, z) K) := by
    intro j f hj
    have f1 : az_in (nI j) 60 = true := by rw [az_in_nI (by omega)]; simp; omega
    have f2 : (nI nl ≤ nI j) = False := by rw [bz_le (by omega) (by omega)]; simp; omega
    refine Iff.trans s23_2 ?_
    unfold fmva
    by_cases hh : f j = a <;> simp (maxDischargeDepth := 7) only [C23, th23, s23_0, s23_1, s23_3, s23_4, s23_7, s23_10, s23_11, s23_14, s23_15, s23_16, s23_17, s23_20, s23_21, s23_24, s23_25, s23_26, s23_27, s23_30, s23_33, g28_7, g28_0, A29, az_ex, az_bk0, az_bk1, az_bkx, az_cat0, az_cati, az_catr, az_catl, az_vi, az_vr, az_bo0, az_bo1, az_boi, true_and, and_true, if_true, if_false, ne_eq, not_true_eq_false, not_false_eq_true, List.set_cons_zero, List.set_cons_succ, Nat.reduceAdd, Nat.reduceLeDiff, Nat.reduceEqDiff, ↓reduceIte, reduceCtorEq, Nat.reduceSub, Nat.reduceMul, Int32.reduceLT, Int32.reduceLE, Int32.reduceAdd, Int32.reduceMul, Int32.reduceSub, az_ne10, az_ne20, az_ne30, Nat.zero_le, h7, f1, f2, nI_1, nI_clamp (show j < 2 ^ 31 by omega), hh, az_sete, az_set_up]
  simp (maxDischargeDepth := 7) only [C23, th23, s23_0, s23_1, s23_3, s23_4, s23_7, s23_10, s23_11, s23_14, s23_15, s23_16, s23_17, s23_20, s23_21, s23_24, s23_25, s23_26, s23_27, s23_30, s23_33, g28_7, g28_0, A29, az_ex, az_bk0, az_bk1, az_bkx, az_cat0, az_cati, az_catr, az_catl, az_vi, az_vr, az_bo0, az_bo1, az_boi, true_and, and_true, if_true, if_false, ne_eq, not_true_eq_false, not_false_eq_true, List.set_cons_zero, List.set_cons_succ, Nat.reduceAdd, Nat.reduceLeDiff, Nat.reduceEqDiff, ↓reduceIte, reduceCtorEq, Nat.reduceSub, Nat.reduceMul, Int32.reduceLT, Int32.reduceLE, Int32.reduceAdd, Int32.reduceMul, Int32.reduceSub, az_ne10, az_ne20, az_ne30, Nat.zero_le]
  have e0 : (az_S, I, J, c, z) = (az_S, az_set I 29 (I 29), J, c, z) := by rw [az_set_self]
  rw [e0]
  refine (az_loop (W := fun j f => az_W xs d 23 2 [some (.ref 28), some (.int a), some (.int b), some (.int (nI j))] [] (az_S, az_set I 29 f, J, c, z) K) step nl 0 (I 29) (Nat.zero_add _)).trans ?_
  have f3 : (nI nl ≤ nI nl) = True := by rw [bz_le (by omega) (by omega)]; simp
  show az_W xs d 23 2 _ _ _ _ ↔ _
  refine Iff.trans s23_2 ?_
  simp (maxDischargeDepth := 7) only [C23, th23, s23_0, s23_1, s23_3, s23_4, s23_7, s23_10, s23_11, s23_14, s23_15, s23_16, s23_17, s23_20, s23_21, s23_24, s23_25, s23_26, s23_27, s23_30, s23_33, g28_7, g28_0, A29, az_ex, az_bk0, az_bk1, az_bkx, az_cat0, az_cati, az_catr, az_catl, az_vi, az_vr, az_bo0, az_bo1, az_boi, true_and, and_true, if_true, if_false, ne_eq, not_true_eq_false, not_false_eq_true, List.set_cons_zero, List.set_cons_succ, Nat.reduceAdd, Nat.reduceLeDiff, Nat.reduceEqDiff, ↓reduceIte, reduceCtorEq, Nat.reduceSub, Nat.reduceMul, Int32.reduceLT, Int32.reduceLE, Int32.reduceAdd, Int32.reduceMul, Int32.reduceSub, az_ne10, az_ne20, az_ne30, Nat.zero_le, h7, f3, az_sete, az_set_self]
theorem c36 {a b : Int32} (hn : np ≤ 40) (h7 : I 106 5 = nI np) : az_C xs (d + 1) 36 [.ref 106, .int a, .int b] (az_S, I, J, c, z) K ↔ K (0, none, (az_S, az_set I 107 (fd (fmva a b) np 0 (I 107)), J, c, z)) := by
  have step : ∀ j f, j < np → (az_W xs d 36 2 [some (.ref 106), some (.int a), some (.int b), some (.int (nI j))] [] (az_S, az_set I 107 f, J, c, z) K ↔ az_W xs d 36 2 [some (.ref 106), some (.int a), some (.int b), some (.int (nI (j + 1)))] [] (az_S, az_set I 107 (fmva a b j f), J, c, z) K) := by
    intro j f hj
    have f1 : az_in (nI j) 40 = true := by rw [az_in_nI (by omega)]; simp; omega
    have f2 : (nI np ≤ nI j) = False := by rw [bz_le (by omega) (by omega)]; simp; omega
    refine Iff.trans s36_2 ?_
    unfold fmva
    by_cases hh : f j = a <;> simp (maxDischargeDepth := 7) only [C36, th36, s36_0, s36_1, s36_3, s36_4, s36_7, s36_10, s36_11, s36_14, s36_15, s36_16, s36_17, s36_20, s36_21, s36_24, s36_25, s36_26, s36_27, s36_30, s36_33, g106_5, g106_0, A107, az_ex, az_bk0, az_bk1, az_bkx, az_cat0, az_cati, az_catr, az_catl, az_vi, az_vr, az_bo0, az_bo1, az_boi, true_and, and_true, if_true, if_false, ne_eq, not_true_eq_false, not_false_eq_true, List.set_cons_zero, List.set_cons_succ, Nat.reduceAdd, Nat.reduceLeDiff, Nat.reduceEqDiff, ↓reduceIte, reduceCtorEq, Nat.reduceSub, Nat.reduceMul, Int32.reduceLT, Int32.reduceLE, Int32.reduceAdd, Int32.reduceMul, Int32.reduceSub, az_ne10, az_ne20, az_ne30, Nat.zero_le, h7, f1, f2, nI_1, nI_clamp (show j < 2 ^ 31 by omega), hh, az_sete, az_set_up]
  simp (maxDischargeDepth := 7) only [C36, th36, s36_0, s36_1, s36_3, s36_4, s36_7, s36_10, s36_11, s36_14, s36_15, s36_16, s36_17, s36_20, s36_21, s36_24, s36_25, s36_26, s36_27, s36_30, s36_33, g106_5, g106_0, A107, az_ex, az_bk0, az_bk1, az_bkx, az_cat0, az_cati, az_catr, az_catl, az_vi, az_vr, az_bo0, az_bo1, az_boi, true_and, and_true, if_true, if_false, ne_eq, not_true_eq_false, not_false_eq_true, List.set_cons_zero, List.set_cons_succ, Nat.reduceAdd, Nat.reduceLeDiff, Nat.reduceEqDiff, ↓reduceIte, reduceCtorEq, Nat.reduceSub, Nat.reduceMul, Int32.reduceLT, Int32.reduceLE, Int32.reduceAdd, Int32.reduceMul, Int32.reduceSub, az_ne10, az_ne20, az_ne30, Nat.zero_le]
  have e0 : (az_S, I, J, c, z) = (az_S, az_set I 107 (I 107), J, c, z) := by rw [az_set_self]
  rw [e0]
  refine (az_loop (W := fun j f => az_W xs d 36 2 [some (.ref 106), some (.int a), some (.int b), some (.int (nI j))] [] (az_S, az_set I 107 f, J, c, z) K) step np 0 (I 107) (Nat.zero_add _)).trans ?_
  have f3 : (nI np ≤ nI np) = True := by rw [bz_le (by omega) (by omega)]; simp
  show az_W xs d 36 2 _ _ _ _ ↔ _
  refine Iff.trans s36_2 ?_
  simp (maxDischargeDepth := 7) only [C36, th36, s36_0, s36_1, s36_3, s36_4, s36_7, s36_10, s36_11, s36_14, s36_15, s36_16, s36_17, s36_20, s36_21, s36_24, s36_25, s36_26, s36_27, s36_30, s36_33, g106_5, g106_0, A107, az_ex, az_bk0, az_bk1, az_bkx, az_cat0, az_cati, az_catr, az_catl, az_vi, az_vr, az_bo0, az_bo1, az_boi, true_and, and_true, if_true, if_false, ne_eq, not_true_eq_false, not_false_eq_true, List.set_cons_zero, List.set_cons_succ, Nat.reduceAdd, Nat.reduceLeDiff, Nat.reduceEqDiff, ↓reduceIte, reduceCtorEq, Nat.reduceSub, Nat.reduceMul, Int32.reduceLT, Int32.reduceLE, Int32.reduceAdd, Int32.reduceMul, Int32.reduceSub, az_ne10, az_ne20, az_ne30, Nat.zero_le, h7, f3, az_sete, az_set_self]
end

/-! join -/
theorem fmva_in {a b : Int32} {m N : Nat} (hb : az_in b m = true) : ∀ n j (f : Nat → Int32), (∀ i, i < N → az_in (f i) m = true) → ∀ i, i < N → az_in (fd (fmva a b) n j f i) m = true := by
  intro n
  induction n with
  | zero => intro j f h; exact h
  | succ n ih =>
    intro j f h
    refine ih (j + 1) _ fun i hi => ?_
    unfold fmva
    split
    · rw [upde]
      split
      · exact hb
      · exact h i hi
    · exact h i hi
theorem vlt_mv {I I' : Nat → Nat → Int32} {nc nl t : Nat} (h : az_vlt nc nl t I) (h29 : ∀ j, j < nl → az_in (I' 29 j) nc = true) (e30 : I' 30 = I 30) (e31 : I' 31 = I 31) (e32 : I' 32 = I 32) (e33 : I' 33 = I 33) : az_vlt nc nl t I' := by
  intro j hj
  rw [e30, e31, e32, e33]
  exact ⟨h29 j hj, (h j hj).2⟩

/-! bar -/
def sbb (v : Bool) (m b : Nat) : Nat := if v = true then m ||| 2 ^ b else m &&& (63 - 2 ^ b)
theorem sbb_t : ∀ v m b e, m < 64 → b < 6 → e < 6 → (sbb v m b).testBit e = if e = b then v else m.testBit e := by
  have h : ∀ v, ∀ m, m < 64 → ∀ b, b < 6 → ∀ e, e < 6 → (sbb v m b).testBit e = if e = b then v else m.testBit e := by decide +kernel
  exact fun v m b e h1 h2 h3 => h v m h1 b h2 e h3
theorem sbb_l : ∀ v m b, m < 64 → b < 6 → sbb v m b < 64 := by
  have h : ∀ v, ∀ m, m < 64 → ∀ b, b < 6 → sbb v m b < 64 := by decide +kernel
  exact fun v m b h1 h2 => h v m h1 b h2
theorem bq1 {m b : Nat} (hm : m < 64) (hb : b < 6) : ((nI m >>> (nI b &&& 31)) &&& 1) = if m.testBit b = true then 1 else 0 := by
  have h : ∀ m, m < 64 → ∀ b, b < 6 → ((nI m >>> (nI b &&& 31)) &&& 1) = if m.testBit b = true then 1 else 0 := by decide +kernel
  exact h m hm b hb
theorem bq2 {m b : Nat} (hm : m < 64) (hb : b < 6) : (nI m ||| 1 <<< (nI b &&& 31)) = nI (sbb true m b) := by
  have h : ∀ m, m < 64 → ∀ b, b < 6 → (nI m ||| 1 <<< (nI b &&& 31)) = nI (sbb true m b) := by decide +kernel
  exact h m hm b hb
theorem bq3 {m b : Nat} (hm : m < 64) (hb : b < 6) : (nI m &&& (1 <<< (nI b &&& 31) ^^^ -1)) = nI (sbb false m b) := by
  have h : ∀ m, m < 64 → ∀ b, b < 6 → (nI m &&& (1 <<< (nI b &&& 31) ^^^ -1)) = nI (sbb false m b) := by decide +kernel
  exact h m hm b hb

theorem ebar_up {I I' : Nat → Nat → Int32} {a b ma mb : Nat} {v : Bool} (h : az_ebar I) (ha : a < 6) (hb : b < 6) (hab : a ≠ b) (hma : ma < 64) (hmb : mb < 64) (e1 : I 40 a = nI ma) (e2 : I 40 b = nI mb) (e40 : I' 40 = upd (upd (I 40) a (nI (sbb v ma b))) b (nI (sbb v mb a))) : az_ebar I' := by
  have hM : ∀ e, e < 6 → (I 40 e).toNatClampNeg < 64 ∧ I 40 e = nI (I 40 e).toNatClampNeg ∧ (I 40 e).toNatClampNeg.testBit e = false ∧ ∀ f, f < 6 → (I 40 f).toNatClampNeg.testBit e = (I 40 e).toNatClampNeg.testBit f := by
    intro e he
    obtain ⟨m, h1, h2, h3, h4⟩ := h e he
    have e9 : (I 40 e).toNatClampNeg = m := by rw [h2, nI_clamp (by omega)]
    rw [e9]
    exact ⟨h1, h2, h3, h4⟩
  have ea : (I 40 a).toNatClampNeg = ma := by rw [e1, nI_clamp (by omega)]
  have eb : (I 40 b).toNatClampNeg = mb := by rw [e2, nI_clamp (by omega)]
  obtain ⟨N, hN⟩ : ∃ N : Nat → Nat, N = fun e => if e = b then sbb v mb a else if e = a then sbb v ma b else (I 40 e).toNatClampNeg := ⟨_, rfl⟩
  have hN1 : ∀ e, e < 6 → N e < 64 := fun e he => by
    rw [hN]
    dsimp only
    split
    · exact sbb_l _ _ _ hmb ha
    · split
      · exact sbb_l _ _ _ hma hb
      · exact (hM e he).1
  have hN2 : ∀ e, e < 6 → I' 40 e = nI (N e) := fun e he => by
    rw [e40, hN]
    simp only [upde]
    split
    · rfl
    · split
      · rfl
      · exact (hM e he).2.1
  have hN3 : ∀ e, e < 6 → ∀ f, f < 6 → (N e).testBit f = if (e = b ∧ f = a) ∨ (e = a ∧ f = b) then v else (I 40 e).toNatClampNeg.testBit f := fun e he f hf => by
    rw [hN]
    dsimp only
    by_cases h1 : e = b
    · subst h1
      rw [if_pos rfl, sbb_t _ _ _ _ hmb ha hf, eb]
      by_cases h2 : f = a
      · rw [if_pos h2, if_pos (Or.inl ⟨rfl, h2⟩)]
      · rw [if_neg h2, if_neg (fun q => q.elim (fun q => h2 q.2) (fun q => hab q.1.symm))]
    · rw [if_neg h1]
      by_cases h3 : e = a
      · subst h3
        rw [if_pos rfl, sbb_t _ _ _ _ hma hb hf, ea]
        by_cases h2 : f = b
        · rw [if_pos h2, if_pos (Or.inr ⟨rfl, h2⟩)]
        · rw [if_neg h2, if_neg (fun q => q.elim (fun q => h1 q.1) (fun q => h2 q.2))]
      · rw [if_neg h3, if_neg (fun q => q.elim (fun q => h1 q.1) (fun q => h3 q.1))]
  intro c hc
  refine ⟨N c, hN1 c hc, hN2 c hc, ?_, fun e he => ?_⟩
  · rw [hN3 c hc c hc, if_neg (fun q => q.elim (fun q => hab (q.2.symm.trans q.1)) (fun q => hab (q.1.symm.trans q.2)))]
    exact (hM c hc).2.2.1
  · rw [hN2 e he, nI_clamp (by have := hN1 e he; omega), hN3 e he c hc, hN3 c hc e he]
    by_cases q : (e = b ∧ c = a) ∨ (e = a ∧ c = b)
    · rw [if_pos q, if_pos (q.elim (fun q => Or.inr ⟨q.2, q.1⟩) (fun q => Or.inl ⟨q.2, q.1⟩))]
    · rw [if_neg q, if_neg (fun r => q (r.elim (fun r => Or.inr ⟨r.2, r.1⟩) (fun r => Or.inl ⟨r.2, r.1⟩)))]
      exact (hM c hc).2.2.2 e he
