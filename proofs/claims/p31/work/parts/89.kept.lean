/-! areKept, areFair: the walks, over what is known of the state -/
section
variable {xs : az_X} {d mo nc nl ng np t c z : Nat} {I : St} {J : Nat → Nat → Int64} {K : az_O → Prop} {n : Nat} {a b e f : Int32} {s s2 : St}
theorem Q60 (hS : St2 I s s2) (H : PC s mo nc nl ng np t) (ha : az_in a nc = true) (hb : 0 ≤ b ∧ b ≤ 7) (hK : ∀ I', St2 I' s s2 → K (0, some (.int (f_ofCard s a b).1), (az_S, I', J, c, z))) : az_C xs (d + 12) 60 [.ref 0, .int a, .int b] (az_S, I, J, c, z) K := by
  obtain ⟨rfl, rfl⟩ := hS
  exact M60 (PC_kr.mp H) ⟨fun I' h1 h2 => hK I' ⟨h1, Fr_rn h2⟩, fun hv => absurd ⟨ha, hb⟩ hv⟩
theorem Q61 (hS : St2 I s s2) (H : PC s mo nc nl ng np t) (ha : az_in a nl = true) (hb : 0 ≤ b ∧ b ≤ 4) (hK : ∀ I', St2 I' s s2 → K (0, some (.int (f_ofLot s a b).1), (az_S, I', J, c, z))) : az_C xs (d + 12) 61 [.ref 0, .int a, .int b] (az_S, I, J, c, z) K := by
  obtain ⟨rfl, rfl⟩ := hS
  exact M61 (PC_kr.mp H) ⟨fun I' h1 h2 => hK I' ⟨h1, Fr_rn h2⟩, fun hv => absurd ⟨ha, hb⟩ hv⟩
theorem Q62 (hS : St2 I s s2) (H : PC s mo nc nl ng np t) (ha : az_in a nc = true) (hb : 0 ≤ b) (hK : ∀ I', St2 I' s s2 → K (0, some (.int (f_order s a b).1), (az_S, I', J, c, z))) : az_C xs (d + 12) 62 [.ref 0, .int a, .int b] (az_S, I, J, c, z) K := by
  obtain ⟨rfl, rfl⟩ := hS
  exact M62 (PC_kr.mp H) ⟨fun I' h1 h2 => hK I' ⟨h1, Fr_rn h2⟩, fun hv => absurd ⟨ha, hb⟩ hv⟩
theorem Q63 (hS : St2 I s s2) (H : PC s mo nc nl ng np t) (ha : az_in a np = true) (hb : 0 ≤ b ∧ b ≤ 4) (hK : ∀ I', St2 I' s s2 → K (0, some (.int (f_ofPay s a b).1), (az_S, I', J, c, z))) : az_C xs (d + 12) 63 [.ref 0, .int a, .int b] (az_S, I, J, c, z) K := by
  obtain ⟨rfl, rfl⟩ := hS
  exact M63 (PC_kr.mp H) ⟨fun I' h1 h2 => hK I' ⟨h1, Fr_rn h2⟩, fun hv => absurd ⟨ha, hb⟩ hv⟩
theorem Q64 (hS : St2 I s s2) (H : PC s mo nc nl ng np t) (ha : az_in a np = true) (hb : az_in b nl = true) (hK : ∀ I', St2 I' s s2 → K (0, some (.int (f_taken s a b).1), (az_S, I', J, c, z))) : az_C xs (d + 12) 64 [.ref 0, .int a, .int b] (az_S, I, J, c, z) K := by
  obtain ⟨rfl, rfl⟩ := hS
  exact M64 (PC_kr.mp H) ⟨fun I' h1 h2 => hK I' ⟨h1, Fr_rn h2⟩, fun hv => absurd ⟨ha, hb⟩ hv⟩
theorem Q65 (hS : St2 I s s2) (H : PC s mo nc nl ng np t) (ha : az_in a 4 = true) (hb : 0 ≤ b ∧ b ≤ 8) (hK : ∀ I', St2 I' s s2 → K (0, some (.int (f_ofChain s a b).1), (az_S, I', J, c, z))) : az_C xs (d + 12) 65 [.ref 0, .int a, .int b] (az_S, I, J, c, z) K := by
  obtain ⟨rfl, rfl⟩ := hS
  exact M65 (PC_kr.mp H) ⟨fun I' h1 h2 => hK I' ⟨h1, Fr_rn h2⟩, fun hv => absurd ⟨ha, hb⟩ hv⟩
theorem Q66 (hS : St2 I s s2) (ha : az_in a 3 = true) (hb : az_in b 4 = true) (hK : ∀ I', St2 I' s s2 → K (0, some (.int (f_owed s a b).1), (az_S, I', J, c, z))) : az_C xs (d + 12) 66 [.ref 0, .int a, .int b] (az_S, I, J, c, z) K := by
  obtain ⟨rfl, rfl⟩ := hS
  exact M66 ⟨fun I' h1 h2 => hK I' ⟨h1, Fr_rn h2⟩, fun hv => absurd ⟨ha, hb⟩ hv⟩
theorem Q67 (hS : St2 I s s2) (H : PC s mo nc nl ng np t) (ha : az_in a 4 = true) (hK : ∀ I', St2 I' s s2 → K (0, some (.int (f_anew s a).1), (az_S, I', J, c, z))) : az_C xs (d + 12) 67 [.ref 0, .int a] (az_S, I, J, c, z) K := by
  obtain ⟨rfl, rfl⟩ := hS
  exact M67 (PC_kr.mp H) ⟨fun I' h1 h2 => hK I' ⟨h1, Fr_rn h2⟩, fun hv => absurd ha hv⟩
theorem Q68 (hS : St2 I s s2) (H : PC s mo nc nl ng np t) (ha : az_in a 4 = true) (hK : ∀ I', St2 I' s s2 → K (0, some (.int (f_booked s a).1), (az_S, I', J, c, z))) : az_C xs (d + 12) 68 [.ref 0, .int a] (az_S, I, J, c, z) K := by
  obtain ⟨rfl, rfl⟩ := hS
  exact M68 (PC_kr.mp H) ⟨fun I' h1 h2 => hK I' ⟨h1, Fr_rn h2⟩, fun hv => absurd ha hv⟩
theorem Q47 (hS : St2 I s s2) (H : PC s mo nc nl ng np t) (ha : 1 ≤ a ∧ a ≤ 1000) (hK : ∀ I', St2 I' s s2 → K (0, some (.int (nI (lowN s a.toNatClampNeg))), (az_S, I', J, c, z))) : az_C xs (d + 12) 47 [.ref 0, .int a] (az_S, I, J, c, z) K := by
  obtain ⟨rfl, rfl⟩ := hS
  refine M47 (PC_kr.mp H) ?_
  unfold f_best
  rw [if_pos ha]
  exact ⟨fun I' h1 h2 => hK I' ⟨h1, Fr_rn h2⟩, fun hv => absurd ha hv⟩
theorem Q48 (hS : St2 I s s2) (H : PC s mo nc nl ng np t) (ha : 1 ≤ a ∧ a ≤ 1000) (hK : ∀ I', St2 I' s s2 → K (0, some (.int (nI (lowN s a.toNatClampNeg))), (az_S, I', J, c, z))) : az_C xs (d + 12) 48 [.ref 0, .int a] (az_S, I, J, c, z) K := by
  obtain ⟨rfl, rfl⟩ := hS
  refine M48 (PC_kr.mp H) ?_
  unfold f_best
  rw [if_pos ha]
  exact ⟨fun I' h1 h2 => hK I' ⟨h1, Fr_rn h2⟩, fun hv => absurd ha hv⟩
theorem Q49 (hS : St2 I s s2) (H : PC s mo nc nl ng np t) (ha : 1 ≤ a ∧ a ≤ 1000) (hK : ∀ I', St2 I' s s2 → K (0, some (.int (nI (fewN s a.toNatClampNeg))), (az_S, I', J, c, z))) : az_C xs (d + 12) 49 [.ref 0, .int a] (az_S, I, J, c, z) K := by
  obtain ⟨rfl, rfl⟩ := hS
  refine M49 (PC_kr.mp H) ?_
  unfold f_few
  rw [if_pos ha]
  exact ⟨fun I' h1 h2 => hK I' ⟨h1, Fr_rn h2⟩, fun hv => absurd ha hv⟩
end
section
variable {s : St} {a b : Int32}
theorem oc0 (h : az_in a 4 = true) : (f_ofChain s a 0).1 = s 8 a.toNatClampNeg := if_pos ⟨h, by decide⟩
theorem oc1 (h : az_in a 4 = true) : (f_ofChain s a 1).1 = s 9 a.toNatClampNeg := if_pos ⟨h, by decide⟩
theorem oc2 (h : az_in a 4 = true) : (f_ofChain s a 2).1 = leftS s a := if_pos ⟨h, by decide⟩
theorem oc3 (h : az_in a 4 = true) : (f_ofChain s a 3).1 = netS s a := if_pos ⟨h, by decide⟩
theorem oc4 (h : az_in a 4 = true) : (f_ofChain s a 4).1 = s 10 a.toNatClampNeg := if_pos ⟨h, by decide⟩
theorem oc5 (h : az_in a 4 = true) : (f_ofChain s a 5).1 = s 11 a.toNatClampNeg := if_pos ⟨h, by decide⟩
theorem oc6 (h : az_in a 4 = true) : (f_ofChain s a 6).1 = s 12 a.toNatClampNeg := if_pos ⟨h, by decide⟩
theorem oc7 (h : az_in a 4 = true) : (f_ofChain s a 7).1 = s 13 a.toNatClampNeg := if_pos ⟨h, by decide⟩
theorem oc8 (h : az_in a 4 = true) : (f_ofChain s a 8).1 = s 6 a.toNatClampNeg := if_pos ⟨h, by decide⟩
theorem od0 (h : az_in a 4 = true) : (f_owed s 0 a).1 = s 15 a.toNatClampNeg := if_pos ⟨by decide, h⟩
theorem od1 (h : az_in a 4 = true) : (f_owed s 1 a).1 = s 16 a.toNatClampNeg := if_pos ⟨by decide, h⟩
theorem od2 (h : az_in a 4 = true) : (f_owed s 2 a).1 = s 17 a.toNatClampNeg := if_pos ⟨by decide, h⟩
theorem oan (h : az_in a 4 = true) : (f_anew s a).1 = anewS s a.toNatClampNeg a := if_pos h
def bookS (s : St) (a : Int32) : Int32 := fd (fbk (s 19) (s 29) (s 30) (s 31) (s 32) (s 33) (s 0 6) (s 7 a.toNatClampNeg) a) (nlN s) 0 0
theorem obk (h : az_in a 4 = true) : (f_booked s a).1 = bookS s a := if_pos h
theorem ol0 (h : az_in a (nlN s) = true) : (f_ofLot s a 0).1 = s 29 a.toNatClampNeg := if_pos ⟨h, by decide⟩
theorem ol2 (h : az_in a (nlN s) = true) : (f_ofLot s a 2).1 = s 31 a.toNatClampNeg := if_pos ⟨h, by decide⟩
theorem ol3 (h : az_in a (nlN s) = true) : (f_ofLot s a 3).1 = s 33 a.toNatClampNeg := if_pos ⟨h, by decide⟩
theorem ol0n (h : ¬ az_in a (nlN s) = true) : (f_ofLot s a 0).1 = bad := if_neg fun q => h q.1
theorem cd0 (h : az_in a (ncN s) = true) : (f_ofCard s a 0).1 = s 24 a.toNatClampNeg := if_pos ⟨h, by decide⟩
theorem cd1 (h : az_in a (ncN s) = true) : (f_ofCard s a 1).1 = balS s a := if_pos ⟨h, by decide⟩
theorem cd2 (h : az_in a (ncN s) = true) : (f_ofCard s a 2).1 = s 25 a.toNatClampNeg := if_pos ⟨h, by decide⟩
theorem cd3 (h : az_in a (ncN s) = true) : (f_ofCard s a 3).1 = s 26 a.toNatClampNeg := if_pos ⟨h, by decide⟩
theorem cd4 (h : az_in a (ncN s) = true) : (f_ofCard s a 4).1 = codeS s a := if_pos ⟨h, by decide⟩
theorem cd6 (h : az_in a (ncN s) = true) : (f_ofCard s a 6).1 = mkS s a false := if_pos ⟨h, by decide⟩
theorem cdn (h : ¬ az_in a (ncN s) = true) : (f_ofCard s a b).1 = bad := if_neg fun q => h q.1
theorem py0 (h : az_in a (npN s) = true) : (f_ofPay s a 0).1 = s 107 a.toNatClampNeg := if_pos ⟨h, by decide⟩
theorem py1 (h : az_in a (npN s) = true) : (f_ofPay s a 1).1 = s 108 a.toNatClampNeg := if_pos ⟨h, by decide⟩
theorem py2 (h : az_in a (npN s) = true) : (f_ofPay s a 2).1 = s 109 a.toNatClampNeg := if_pos ⟨h, by decide⟩
theorem py4 (h : az_in a (npN s) = true) : (f_ofPay s a 4).1 = s 109 a.toNatClampNeg / 10 := if_pos ⟨h, by decide⟩
theorem pyn (h : ¬ az_in a (npN s) = true) : (f_ofPay s a 0).1 = bad := if_neg fun q => h q.1
theorem tkn (h : az_in a (npN s) = true) (h2 : az_in b (nlN s) = true) : (f_taken s a b).1 = s (112 + a.toNatClampNeg) b.toNatClampNeg := if_pos ⟨h, h2⟩
theorem odr (h : az_in a (ncN s) = true) (h2 : 0 ≤ b) : (f_order s a b).1 = if b < nI (ordS s a).length then nI ((ordS s a).getD b.toNatClampNeg 0) else -1 := if_pos ⟨h, h2⟩
end
/-- an END, as areKept takes it -/
def enE (s : St) (y : Nat) : Int32 := if s 33 y < 0 then 9999 else s 33 y
/-- what areKept finds to hold -/
def KF (s : St) (mo nc nl np : Nat) : Prop :=
  (∀ ch, ch < 4 → ¬ leftS s (nI ch) < 0 ∧ leftS s (nI ch) = anewS s ch (nI ch) ∧ leftS s (nI ch) + netS s (nI ch) + s 10 ch + s 11 ch + s 12 ch + s 13 ch + s 15 ch + s 16 ch + s 17 ch = s 8 ch + s 9 ch ∧ ¬ bookS s (nI ch) < 0 ∧ ¬ leftS s (nI ch) < bookS s (nI ch) ∧ (s 6 ch = 0 ∨ leftS s (nI ch) = 0)) ∧
  (∀ k, k < nc → (∀ y, y ∈ ordS s (nI k) → y < nl ∧ s 29 y = nI k ∧ 0 < s 31 y ∧ nI mo < enE s y) ∧ (ordS s (nI k)).Pairwise (fun x y => enE s x ≤ enE s y) ∧ (ordS s (nI k)).foldl (fun v y => v + s 31 y) 0 = balS s (nI k) ∧ (s 24 k < 2 ∨ balS s (nI k) = 0) ∧ ¬ mkS s (nI k) false < 0 ∧ ¬ s 0 6 < s 25 k) ∧
  (∀ p, p < np → fd (fun j v => v + s (112 + p) j) nl 0 0 = s 109 p ∧ ¬ s 108 p < s 109 p) ∧
  fd (fun k v => v + balS s (nI k)) nc 0 0 = 0 + leftS s (nI 0) + leftS s (nI 1) + leftS s (nI 2) + leftS s (nI 3)
section
variable {xs : az_X} {d mo nc nl ng np t c z : Nat} {I : St} {J : Nat → Nat → Int64} {K : az_O → Prop} {s s2 : St}
theorem bd0 : (bad < 0) = True := by decide
theorem kl1 (ht : t < 600) (H : PC s mo nc nl ng np t) : ∀ (m j : Nat) (I : St) (c z : Nat), j + m = nl → St2 I s s2 → (∀ I' c' z', St2 I' s s2 → c' ≤ c + (m + 1) → z' ≤ z + 6 * (m + 1) → az_W xs (d + 14) 97 23 [some (.ref 0), some (.int 1), some (.int (nI nl)), none, none, none, none, none, none, none, none] [] (az_S, I', J, c', z') K) → az_W xs (d + 14) 97 4 [some (.ref 0), some (.int 1), some (.int (nI j)), none, none, none, none, none, none, none, none] [] (az_S, I, J, c, z) K := by
  have enl : nlN s = nl := by have := H.1.2.2.1; unfold nlN; rw [this.1, nI_clamp (by omega)]
  have hn := H.1.2.2.1.2
  intro m
  induction m with
  | zero =>
    intro j I c z hj hS hK
    obtain rfl : j = nl := by omega
    simp (maxDischargeDepth := 7) only [s97_4, s97_5, s97_7, s97_8, s97_9, s97_10, s97_11, cc91, az_ex, az_bk0, az_bk1, az_bkx, az_cat0, az_cati, az_catr, az_catl, az_vi, az_vr, az_bo0, az_bo1, az_boi, true_and, and_true, if_true, if_false, ne_eq, not_true_eq_false, not_false_eq_true, List.set_cons_zero, List.set_cons_succ, Nat.reduceAdd, Nat.reduceLeDiff, Nat.reduceEqDiff, ↓reduceIte, reduceCtorEq, Nat.reduceSub, Nat.reduceMul, Int32.reduceLT, Int32.reduceLE, Int32.reduceAdd, Int32.reduceMul, Int32.reduceSub, az_ne10, az_ne20, az_ne30, Nat.zero_le]
    refine do_o (n := 19) (by decide) ht hS H fun I1 c1 z1 hS1 hc1 hz1 => ?_
    rw [q2 (by decide) (by decide)] at hS1
    have ev : (fdo 19 (nI j) 0 0 0 s).1 = bad := ol0n (by rw [enl, az_in_nI (by omega)]; simp)
    rw [ev]
    simp (maxDischargeDepth := 7) only [s97_14, s97_17, s97_20, az_ex, az_bk0, az_bk1, az_bkx, az_cat0, az_cati, az_catr, az_catl, az_vi, az_vr, az_bo0, az_bo1, az_boi, true_and, and_true, if_true, if_false, ne_eq, not_true_eq_false, not_false_eq_true, List.set_cons_zero, List.set_cons_succ, Nat.reduceAdd, Nat.reduceLeDiff, Nat.reduceEqDiff, ↓reduceIte, reduceCtorEq, Nat.reduceSub, Nat.reduceMul, Int32.reduceLT, Int32.reduceLE, Int32.reduceAdd, Int32.reduceMul, Int32.reduceSub, az_ne10, az_ne20, az_ne30, Nat.zero_le, bd0]
    exact hK I1 c1 z1 hS1 (by omega) (by omega)
  | succ m ih =>
    intro j I c z hj hS hK
    simp (maxDischargeDepth := 7) only [s97_4, s97_5, s97_7, s97_8, s97_9, s97_10, s97_11, cc91, az_ex, az_bk0, az_bk1, az_bkx, az_cat0, az_cati, az_catr, az_catl, az_vi, az_vr, az_bo0, az_bo1, az_boi, true_and, and_true, if_true, if_false, ne_eq, not_true_eq_false, not_false_eq_true, List.set_cons_zero, List.set_cons_succ, Nat.reduceAdd, Nat.reduceLeDiff, Nat.reduceEqDiff, ↓reduceIte, reduceCtorEq, Nat.reduceSub, Nat.reduceMul, Int32.reduceLT, Int32.reduceLE, Int32.reduceAdd, Int32.reduceMul, Int32.reduceSub, az_ne10, az_ne20, az_ne30, Nat.zero_le]
    refine do_o (n := 19) (by decide) ht hS H fun I1 c1 z1 hS1 hc1 hz1 => ?_
    rw [q2 (by decide) (by decide)] at hS1
    have hlt : j < nl := by omega
    have ev : (fdo 19 (nI j) 0 0 0 s).1 = s 29 j := by
      have := ol0 (s := s) (a := nI j) (by rw [enl, az_in_nI (by omega)]; simp [hlt])
      rw [nI_clamp (by omega)] at this
      exact this
    rw [ev]
    have h29 : (s 29 j < 0) = False := by
      have h9 := az_int.mp (H.2.2.2.2.2.1 j hlt).1
      apply eq_false
      rw [az_lt0]
      omega
    simp (maxDischargeDepth := 7) only [s97_14, s97_17, s97_20, az_ex, az_bk0, az_bk1, az_bkx, az_cat0, az_cati, az_catr, az_catl, az_vi, az_vr, az_bo0, az_bo1, az_boi, true_and, and_true, if_true, if_false, ne_eq, not_true_eq_false, not_false_eq_true, List.set_cons_zero, List.set_cons_succ, Nat.reduceAdd, Nat.reduceLeDiff, Nat.reduceEqDiff, ↓reduceIte, reduceCtorEq, Nat.reduceSub, Nat.reduceMul, Int32.reduceLT, Int32.reduceLE, Int32.reduceAdd, Int32.reduceMul, Int32.reduceSub, az_ne10, az_ne20, az_ne30, Nat.zero_le, h29, nI_1]
    exact ih (j + 1) I1 c1 z1 (by omega) hS1 fun I2 c2 z2 g1 g2 g3 => hK I2 c2 z2 g1 (by omega) (by omega)
set_option maxRecDepth 4000 in
theorem kl2 (H : PC s mo nc nl ng np t) (hF : KF s mo nc nl np) {ch : Nat} (hch : ch < 4) {al : Int32} {o5 o6 : Option Value} (hS : St2 I s s2) (hK : ∀ I' o5 o6, St2 I' s s2 → az_W xs (d + 14) 97 28 [some (.ref 0), some (.int 1), some (.int (nI nl)), some (.int (al + leftS s (nI ch))), some (.int (nI (ch + 1))), o5, o6, none, none, none, none] [] (az_S, I', J, c, z) K) : az_W xs (d + 14) 97 28 [some (.ref 0), some (.int 1), some (.int (nI nl)), some (.int al), some (.int (nI ch)), o5, o6, none, none, none, none] [] (az_S, I, J, c, z) K := by
  obtain ⟨f1, f2, f3, f4, f5, f6⟩ := hF.1 ch hch
  have g0 : (4 ≤ nI ch) = False := by rw [show (4 : Int32) = nI 4 from rfl, bz_le (by omega) (by omega)]; simp; omega
  have ha : az_in (nI ch) 4 = true := by rw [az_in_nI (by omega)]; simp [hch]
  have hc := nI_clamp (show ch < 2 ^ 31 by omega)
  have f1 := eq_false f1
  have f4 := eq_false f4
  have f5' : (leftS s (nI ch) < bookS s (nI ch)) = False := eq_false f5
  simp (maxDischargeDepth := 7) only [s97_28, s97_30, s97_31, s97_34, s97_35, s97_38, s97_39, s97_41, s97_42, cc65, az_ex, az_bk0, az_bk1, az_bkx, az_cat0, az_cati, az_catr, az_catl, az_vi, az_vr, az_bo0, az_bo1, az_boi, true_and, and_true, if_true, if_false, ne_eq, not_true_eq_false, not_false_eq_true, List.set_cons_zero, List.set_cons_succ, Nat.reduceAdd, Nat.reduceLeDiff, Nat.reduceEqDiff, ↓reduceIte, reduceCtorEq, Nat.reduceSub, Nat.reduceMul, Int32.reduceLT, Int32.reduceLE, Int32.reduceAdd, Int32.reduceMul, Int32.reduceSub, az_ne10, az_ne20, az_ne30, Nat.zero_le, az_q0_1, az_q0_2, az_q0_3, az_q0_4, az_q0_5, az_q0_6, az_q0_7, az_q0_8, az_q1_0, az_q1_2, az_q1_3, az_q1_4, az_q1_5, az_q1_6, az_q1_7, az_q1_8, az_q2_0, az_q2_1, az_q2_3, az_q2_4, az_q2_5, az_q2_6, az_q2_7, az_q2_8, az_q3_0, az_q3_1, az_q3_2, az_q3_4, az_q3_5, az_q3_6, az_q3_7, az_q3_8, az_q4_0, az_q4_1, az_q4_2, az_q4_3, az_q4_5, az_q4_6, az_q4_7, az_q4_8, az_q5_0, az_q5_1, az_q5_2, az_q5_3, az_q5_4, az_q5_6, az_q5_7, az_q5_8, az_q6_0, az_q6_1, az_q6_2, az_q6_3, az_q6_4, az_q6_5, az_q6_7, az_q6_8, az_q7_0, az_q7_1, az_q7_2, az_q7_3, az_q7_4, az_q7_5, az_q7_6, az_q7_8, az_q8_0, az_q8_1, az_q8_2, az_q8_3, az_q8_4, az_q8_5, az_q8_6, az_q8_7, az_z10, az_z60, az_z100, az_z1000, az_z1001, az_z10000, g0, cc65]
  refine Q65 (d := d + 2) hS H ha (by decide) fun I1 h1 => ?_
  simp (maxDischargeDepth := 7) only [oc2 ha, s97_45, s97_47, s97_49, s97_50, s97_52, s97_53, cc65, az_ex, az_bk0, az_bk1, az_bkx, az_cat0, az_cati, az_catr, az_catl, az_vi, az_vr, az_bo0, az_bo1, az_boi, true_and, and_true, if_true, if_false, ne_eq, not_true_eq_false, not_false_eq_true, List.set_cons_zero, List.set_cons_succ, Nat.reduceAdd, Nat.reduceLeDiff, Nat.reduceEqDiff, ↓reduceIte, reduceCtorEq, Nat.reduceSub, Nat.reduceMul, Int32.reduceLT, Int32.reduceLE, Int32.reduceAdd, Int32.reduceMul, Int32.reduceSub, az_ne10, az_ne20, az_ne30, Nat.zero_le, cc65]
  refine Q65 (d := d + 2) h1 H ha (by decide) fun I2 h2 => ?_
  simp (maxDischargeDepth := 7) only [oc3 ha, s97_56, s97_57, s97_58, s97_60, s97_61, cc65, az_ex, az_bk0, az_bk1, az_bkx, az_cat0, az_cati, az_catr, az_catl, az_vi, az_vr, az_bo0, az_bo1, az_boi, true_and, and_true, if_true, if_false, ne_eq, not_true_eq_false, not_false_eq_true, List.set_cons_zero, List.set_cons_succ, Nat.reduceAdd, Nat.reduceLeDiff, Nat.reduceEqDiff, ↓reduceIte, reduceCtorEq, Nat.reduceSub, Nat.reduceMul, Int32.reduceLT, Int32.reduceLE, Int32.reduceAdd, Int32.reduceMul, Int32.reduceSub, az_ne10, az_ne20, az_ne30, Nat.zero_le, cc65]
  refine Q65 (d := d + 2) h2 H ha (by decide) fun I3 h3 => ?_
  simp (maxDischargeDepth := 7) only [oc4 ha, hc, s97_64, s97_65, s97_66, s97_68, s97_69, cc65, az_ex, az_bk0, az_bk1, az_bkx, az_cat0, az_cati, az_catr, az_catl, az_vi, az_vr, az_bo0, az_bo1, az_boi, true_and, and_true, if_true, if_false, ne_eq, not_true_eq_false, not_false_eq_true, List.set_cons_zero, List.set_cons_succ, Nat.reduceAdd, Nat.reduceLeDiff, Nat.reduceEqDiff, ↓reduceIte, reduceCtorEq, Nat.reduceSub, Nat.reduceMul, Int32.reduceLT, Int32.reduceLE, Int32.reduceAdd, Int32.reduceMul, Int32.reduceSub, az_ne10, az_ne20, az_ne30, Nat.zero_le, cc65]
  refine Q65 (d := d + 2) h3 H ha (by decide) fun I4 h4 => ?_
  simp (maxDischargeDepth := 7) only [oc5 ha, hc, s97_72, s97_73, s97_74, s97_76, s97_78, cc65, az_ex, az_bk0, az_bk1, az_bkx, az_cat0, az_cati, az_catr, az_catl, az_vi, az_vr, az_bo0, az_bo1, az_boi, true_and, and_true, if_true, if_false, ne_eq, not_true_eq_false, not_false_eq_true, List.set_cons_zero, List.set_cons_succ, Nat.reduceAdd, Nat.reduceLeDiff, Nat.reduceEqDiff, ↓reduceIte, reduceCtorEq, Nat.reduceSub, Nat.reduceMul, Int32.reduceLT, Int32.reduceLE, Int32.reduceAdd, Int32.reduceMul, Int32.reduceSub, az_ne10, az_ne20, az_ne30, Nat.zero_le, cc65]
  refine Q65 (d := d + 2) h4 H ha (by decide) fun I5 h5 => ?_
  simp (maxDischargeDepth := 7) only [oc6 ha, hc, s97_81, s97_82, s97_83, s97_85, s97_87, cc65, az_ex, az_bk0, az_bk1, az_bkx, az_cat0, az_cati, az_catr, az_catl, az_vi, az_vr, az_bo0, az_bo1, az_boi, true_and, and_true, if_true, if_false, ne_eq, not_true_eq_false, not_false_eq_true, List.set_cons_zero, List.set_cons_succ, Nat.reduceAdd, Nat.reduceLeDiff, Nat.reduceEqDiff, ↓reduceIte, reduceCtorEq, Nat.reduceSub, Nat.reduceMul, Int32.reduceLT, Int32.reduceLE, Int32.reduceAdd, Int32.reduceMul, Int32.reduceSub, az_ne10, az_ne20, az_ne30, Nat.zero_le, cc65]
  refine Q65 (d := d + 2) h5 H ha (by decide) fun I6 h6 => ?_
  simp (maxDischargeDepth := 7) only [oc7 ha, hc, s97_90, s97_91, s97_92, s97_93, s97_95, cc66, az_ex, az_bk0, az_bk1, az_bkx, az_cat0, az_cati, az_catr, az_catl, az_vi, az_vr, az_bo0, az_bo1, az_boi, true_and, and_true, if_true, if_false, ne_eq, not_true_eq_false, not_false_eq_true, List.set_cons_zero, List.set_cons_succ, Nat.reduceAdd, Nat.reduceLeDiff, Nat.reduceEqDiff, ↓reduceIte, reduceCtorEq, Nat.reduceSub, Nat.reduceMul, Int32.reduceLT, Int32.reduceLE, Int32.reduceAdd, Int32.reduceMul, Int32.reduceSub, az_ne10, az_ne20, az_ne30, Nat.zero_le, cc66]
  refine Q66 (d := d + 2) h6 (by decide) ha fun I7 h7 => ?_
  simp (maxDischargeDepth := 7) only [od0 ha, hc, s97_98, s97_99, s97_100, s97_101, s97_103, cc66, az_ex, az_bk0, az_bk1, az_bkx, az_cat0, az_cati, az_catr, az_catl, az_vi, az_vr, az_bo0, az_bo1, az_boi, true_and, and_true, if_true, if_false, ne_eq, not_true_eq_false, not_false_eq_true, List.set_cons_zero, List.set_cons_succ, Nat.reduceAdd, Nat.reduceLeDiff, Nat.reduceEqDiff, ↓reduceIte, reduceCtorEq, Nat.reduceSub, Nat.reduceMul, Int32.reduceLT, Int32.reduceLE, Int32.reduceAdd, Int32.reduceMul, Int32.reduceSub, az_ne10, az_ne20, az_ne30, Nat.zero_le, cc66]
  refine Q66 (d := d + 2) h7 (by decide) ha fun I8 h8 => ?_
  simp (maxDischargeDepth := 7) only [od1 ha, hc, s97_106, s97_107, s97_108, s97_109, s97_111, cc66, az_ex, az_bk0, az_bk1, az_bkx, az_cat0, az_cati, az_catr, az_catl, az_vi, az_vr, az_bo0, az_bo1, az_boi, true_and, and_true, if_true, if_false, ne_eq, not_true_eq_false, not_false_eq_true, List.set_cons_zero, List.set_cons_succ, Nat.reduceAdd, Nat.reduceLeDiff, Nat.reduceEqDiff, ↓reduceIte, reduceCtorEq, Nat.reduceSub, Nat.reduceMul, Int32.reduceLT, Int32.reduceLE, Int32.reduceAdd, Int32.reduceMul, Int32.reduceSub, az_ne10, az_ne20, az_ne30, Nat.zero_le, cc66]
  refine Q66 (d := d + 2) h8 (by decide) ha fun I9 h9 => ?_
  simp (maxDischargeDepth := 7) only [od2 ha, hc, s97_114, s97_115, s97_117, s97_119, s97_122, s97_124, s97_125, s97_127, cc67, az_ex, az_bk0, az_bk1, az_bkx, az_cat0, az_cati, az_catr, az_catl, az_vi, az_vr, az_bo0, az_bo1, az_boi, true_and, and_true, if_true, if_false, ne_eq, not_true_eq_false, not_false_eq_true, List.set_cons_zero, List.set_cons_succ, Nat.reduceAdd, Nat.reduceLeDiff, Nat.reduceEqDiff, ↓reduceIte, reduceCtorEq, Nat.reduceSub, Nat.reduceMul, Int32.reduceLT, Int32.reduceLE, Int32.reduceAdd, Int32.reduceMul, Int32.reduceSub, az_ne10, az_ne20, az_ne30, Nat.zero_le, cc67, f1]
  refine Q67 (d := d + 2) h9 H ha fun I10 h10 => ?_
  rw [oan ha, hc, ← f2, f3]
  simp (maxDischargeDepth := 7) only [s97_130, s97_133, s97_135, s97_136, s97_138, s97_139, cc65, az_ex, az_bk0, az_bk1, az_bkx, az_cat0, az_cati, az_catr, az_catl, az_vi, az_vr, az_bo0, az_bo1, az_boi, true_and, and_true, if_true, if_false, ne_eq, not_true_eq_false, not_false_eq_true, List.set_cons_zero, List.set_cons_succ, Nat.reduceAdd, Nat.reduceLeDiff, Nat.reduceEqDiff, ↓reduceIte, reduceCtorEq, Nat.reduceSub, Nat.reduceMul, Int32.reduceLT, Int32.reduceLE, Int32.reduceAdd, Int32.reduceMul, Int32.reduceSub, az_ne10, az_ne20, az_ne30, Nat.zero_le, cc65]
  refine Q65 (d := d + 2) h10 H ha (by decide) fun I11 h11 => ?_
  simp (maxDischargeDepth := 7) only [oc0 ha, hc, s97_142, s97_143, s97_145, s97_146, cc65, az_ex, az_bk0, az_bk1, az_bkx, az_cat0, az_cati, az_catr, az_catl, az_vi, az_vr, az_bo0, az_bo1, az_boi, true_and, and_true, if_true, if_false, ne_eq, not_true_eq_false, not_false_eq_true, List.set_cons_zero, List.set_cons_succ, Nat.reduceAdd, Nat.reduceLeDiff, Nat.reduceEqDiff, ↓reduceIte, reduceCtorEq, Nat.reduceSub, Nat.reduceMul, Int32.reduceLT, Int32.reduceLE, Int32.reduceAdd, Int32.reduceMul, Int32.reduceSub, az_ne10, az_ne20, az_ne30, Nat.zero_le, cc65]
  refine Q65 (d := d + 2) h11 H ha (by decide) fun I12 h12 => ?_
  simp (maxDischargeDepth := 7) only [oc1 ha, hc, s97_149, s97_150, s97_153, s97_154, s97_156, cc68, az_ex, az_bk0, az_bk1, az_bkx, az_cat0, az_cati, az_catr, az_catl, az_vi, az_vr, az_bo0, az_bo1, az_boi, true_and, and_true, if_true, if_false, ne_eq, not_true_eq_false, not_false_eq_true, List.set_cons_zero, List.set_cons_succ, Nat.reduceAdd, Nat.reduceLeDiff, Nat.reduceEqDiff, ↓reduceIte, reduceCtorEq, Nat.reduceSub, Nat.reduceMul, Int32.reduceLT, Int32.reduceLE, Int32.reduceAdd, Int32.reduceMul, Int32.reduceSub, az_ne10, az_ne20, az_ne30, Nat.zero_le, cc68]
  refine Q68 (d := d + 2) h12 H ha fun I13 h13 => ?_
  simp (maxDischargeDepth := 7) only [obk ha, hc, s97_159, s97_162, s97_163, s97_165, cc68, az_ex, az_bk0, az_bk1, az_bkx, az_cat0, az_cati, az_catr, az_catl, az_vi, az_vr, az_bo0, az_bo1, az_boi, true_and, and_true, if_true, if_false, ne_eq, not_true_eq_false, not_false_eq_true, List.set_cons_zero, List.set_cons_succ, Nat.reduceAdd, Nat.reduceLeDiff, Nat.reduceEqDiff, ↓reduceIte, reduceCtorEq, Nat.reduceSub, Nat.reduceMul, Int32.reduceLT, Int32.reduceLE, Int32.reduceAdd, Int32.reduceMul, Int32.reduceSub, az_ne10, az_ne20, az_ne30, Nat.zero_le, cc68, f4]
  refine Q68 (d := d + 2) h13 H ha fun I14 h14 => ?_
  simp (maxDischargeDepth := 7) only [obk ha, hc, s97_168, s97_170, s97_173, s97_174, s97_176, s97_178, cc65, az_ex, az_bk0, az_bk1, az_bkx, az_cat0, az_cati, az_catr, az_catl, az_vi, az_vr, az_bo0, az_bo1, az_boi, true_and, and_true, if_true, if_false, ne_eq, not_true_eq_false, not_false_eq_true, List.set_cons_zero, List.set_cons_succ, Nat.reduceAdd, Nat.reduceLeDiff, Nat.reduceEqDiff, ↓reduceIte, reduceCtorEq, Nat.reduceSub, Nat.reduceMul, Int32.reduceLT, Int32.reduceLE, Int32.reduceAdd, Int32.reduceMul, Int32.reduceSub, az_ne10, az_ne20, az_ne30, Nat.zero_le, cc65, f5']
  refine Q65 (d := d + 2) h14 H ha (by decide) fun I15 h15 => ?_
  rw [oc8 ha, hc]
  rcases f6 with f6 | f6
  · simp (maxDischargeDepth := 7) only [s97_181, s97_184, s97_186, s97_189, s97_190, s97_193, s97_194, s97_195, s97_196, s97_198, s97_199, s97_200, s97_203, az_ex, az_bk0, az_bk1, az_bkx, az_cat0, az_cati, az_catr, az_catl, az_vi, az_vr, az_bo0, az_bo1, az_boi, true_and, and_true, if_true, if_false, ne_eq, not_true_eq_false, not_false_eq_true, List.set_cons_zero, List.set_cons_succ, Nat.reduceAdd, Nat.reduceLeDiff, Nat.reduceEqDiff, ↓reduceIte, reduceCtorEq, Nat.reduceSub, Nat.reduceMul, Int32.reduceLT, Int32.reduceLE, Int32.reduceAdd, Int32.reduceMul, Int32.reduceSub, az_ne10, az_ne20, az_ne30, Nat.zero_le, f6, nI_1]
    exact hK I15 _ _ h15
  · by_cases f7 : s 6 ch = 0
    · have f7 := eq_true f7
      simp (maxDischargeDepth := 7) only [s97_181, s97_184, s97_186, s97_189, s97_190, s97_193, s97_194, s97_195, s97_196, s97_198, s97_199, s97_200, s97_203, az_ex, az_bk0, az_bk1, az_bkx, az_cat0, az_cati, az_catr, az_catl, az_vi, az_vr, az_bo0, az_bo1, az_boi, true_and, and_true, if_true, if_false, ne_eq, not_true_eq_false, not_false_eq_true, List.set_cons_zero, List.set_cons_succ, Nat.reduceAdd, Nat.reduceLeDiff, Nat.reduceEqDiff, ↓reduceIte, reduceCtorEq, Nat.reduceSub, Nat.reduceMul, Int32.reduceLT, Int32.reduceLE, Int32.reduceAdd, Int32.reduceMul, Int32.reduceSub, az_ne10, az_ne20, az_ne30, Nat.zero_le, f7, nI_1]
      exact hK I15 _ _ h15
    · have f7 := eq_false f7
      have f6' : (leftS s (nI ch) = 0) = True := eq_true f6
      simp (maxDischargeDepth := 7) only [s97_181, s97_184, s97_186, s97_189, s97_190, s97_193, s97_194, s97_195, s97_196, s97_198, s97_199, s97_200, s97_203, az_ex, az_bk0, az_bk1, az_bkx, az_cat0, az_cati, az_catr, az_catl, az_vi, az_vr, az_bo0, az_bo1, az_boi, true_and, and_true, if_true, if_false, ne_eq, not_true_eq_false, not_false_eq_true, List.set_cons_zero, List.set_cons_succ, Nat.reduceAdd, Nat.reduceLeDiff, Nat.reduceEqDiff, ↓reduceIte, reduceCtorEq, Nat.reduceSub, Nat.reduceMul, Int32.reduceLT, Int32.reduceLE, Int32.reduceAdd, Int32.reduceMul, Int32.reduceSub, az_ne10, az_ne20, az_ne30, Nat.zero_le, f7, f6', nI_1]
      exact hK I15 _ _ h15
theorem kl2l (H : PC s mo nc nl ng np t) (hF : KF s mo nc nl np) (hS : St2 I s s2) (hK : ∀ I' o5 o6, St2 I' s s2 → az_W xs (d + 14) 97 206 [some (.ref 0), some (.int 1), some (.int (nI nl)), some (.int (0 + leftS s (nI 0) + leftS s (nI 1) + leftS s (nI 2) + leftS s (nI 3))), some (.int (nI 4)), o5, o6, none, none, none, none] [] (az_S, I', J, c, z) K) : az_W xs (d + 14) 97 28 [some (.ref 0), some (.int 1), some (.int (nI nl)), some (.int 0), some (.int (nI 0)), none, none, none, none, none, none] [] (az_S, I, J, c, z) K := by
  refine kl2 H hF (by decide) hS fun I1 a1 b1 h1 => kl2 H hF (by decide) h1 fun I2 a2 b2 h2 => kl2 H hF (by decide) h2 fun I3 a3 b3 h3 => kl2 H hF (by decide) h3 fun I4 a4 b4 h4 => ?_
  have g0 : (4 ≤ nI 4) = True := by decide
  have e4 : nI (0 + 1 + 1 + 1 + 1) = nI 4 := rfl
  simp (maxDischargeDepth := 7) only [s97_28, s97_30, s97_31, az_ex, az_bk0, az_bk1, az_bkx, az_cat0, az_cati, az_catr, az_catl, az_vi, az_vr, az_bo0, az_bo1, az_boi, true_and, and_true, if_true, if_false, ne_eq, not_true_eq_false, not_false_eq_true, List.set_cons_zero, List.set_cons_succ, Nat.reduceAdd, Nat.reduceLeDiff, Nat.reduceEqDiff, ↓reduceIte, reduceCtorEq, Nat.reduceSub, Nat.reduceMul, Int32.reduceLT, Int32.reduceLE, Int32.reduceAdd, Int32.reduceMul, Int32.reduceSub, az_ne10, az_ne20, az_ne30, Nat.zero_le, e4, g0]
  exact hK I4 _ _ h4
end
