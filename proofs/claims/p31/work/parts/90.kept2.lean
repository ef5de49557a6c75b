/-! areKept: cards, payments, the end -/
def sumU (s : St) (L : List Nat) (i : Nat) : Int32 := (L.take i).foldl (fun v y => v + s 31 y) 0
theorem sumU_s {s : St} {L : List Nat} {i : Nat} (h : i < L.length) : sumU s L (i + 1) = sumU s L i + s 31 (L.getD i 0) := by
  unfold sumU
  rw [List.take_succ, List.foldl_append, gD_e h, List.getElem?_eq_getElem h]
  rfl
section
variable {xs : az_X} {d mo nc nl ng np t c z : Nat} {I : St} {J : Nat → Nat → Int64} {K : az_O → Prop} {s s2 : St}
theorem b9999 : ((9999 : Int32) < 0) = False := by decide
set_option maxRecDepth 4000 in
/-- one lot of a card's order -/
theorem ko1 (H : PC s mo nc nl ng np t) {k i : Nat} (hk : k < nc) (hi : i < (ordS s (nI k)).length) (hlen : (ordS s (nI k)).length ≤ 60) {y : Nat} (hy : y = (ordS s (nI k)).getD i 0) (e1 : y < nl) (e2 : s 29 y = nI k) (e3 : 0 < s 31 y) (e4 : nI mo < enE s y) {bf : Int32} (e5 : ¬ enE s y < bf) {al cs sm : Int32} {o10 : Option Value} (hS : St2 I s s2)
    (hK : ∀ I' o10, St2 I' s s2 → az_W xs (d + 14) 97 260 [some (.ref 0), some (.int 1), some (.int (nI nl)), some (.int al), some (.int cs), some (.int (nI k)), some (.int (sm + s 31 y)), some (.int (nI (i + 1))), some (.int (enE s y)), some (.int (if i + 1 < (ordS s (nI k)).length then nI ((ordS s (nI k)).getD (i + 1) 0) else -1)), o10] [] (az_S, I', J, c, z) K) :
    az_W xs (d + 14) 97 260 [some (.ref 0), some (.int 1), some (.int (nI nl)), some (.int al), some (.int cs), some (.int (nI k)), some (.int sm), some (.int (nI i)), some (.int bf), some (.int (nI y)), o10] [] (az_S, I, J, c, z) K := by
  have n9 := H.1.2.2.1.2
  have n6 := H.1.2.1.2
  have enl : nlN s = nl := by unfold nlN; rw [H.1.2.2.1.1, nI_clamp (by omega)]
  have enc : ncN s = nc := by unfold ncN; rw [H.1.2.1.1, nI_clamp (by omega)]
  have n1 : s 0 6 = nI mo := H.1.1.1
  have hyl : az_in (nI y) nl = true := by rw [az_in_nI (by omega)]; simp [e1]
  have hyl' : az_in (nI y) (nlN s) = true := by rw [enl]; exact hyl
  have hyc := nI_clamp (show y < 2 ^ 31 by omega)
  have hkc : az_in (nI k) nc = true := by rw [az_in_nI (by omega)]; simp [hk]
  have hkc' : az_in (nI k) (ncN s) = true := by rw [enc]; exact hkc
  have g1 : (nI y < 0) = False := by rw [show (0 : Int32) = nI 0 from rfl, bz_lt (by omega) (by omega)]; simp
  have v0 := ol0 hyl'
  have v2 := ol2 hyl'
  have v3 := ol3 hyl'
  rw [hyc] at v0 v2 v3
  have e3' : (s 31 y ≤ 0) = False := by rw [bz_nlt]; simp [e3]
  have e4' : (enE s y ≤ nI mo) = False := by rw [bz_nlt]; simp [e4]
  have e5' := eq_false e5
  have hEk : ∀ I1, St2 I1 s s2 → az_W xs (d + 14) 97 292 [some (.ref 0), some (.int 1), some (.int (nI nl)), some (.int al), some (.int cs), some (.int (nI k)), some (.int sm), some (.int (nI i)), some (.int bf), some (.int (nI y)), o10] [.int (enE s y)] (az_S, I1, J, c, z) K := by
    intro I1 h1
    simp (maxDischargeDepth := 7) only [s97_292, s97_294, s97_295, s97_297, s97_298, cc61, az_ex, az_bk0, az_bk1, az_bkx, az_cat0, az_cati, az_catr, az_catl, az_vi, az_vr, az_bo0, az_bo1, az_boi, true_and, and_true, if_true, if_false, ne_eq, not_true_eq_false, not_false_eq_true, List.set_cons_zero, List.set_cons_succ, Nat.reduceAdd, Nat.reduceLeDiff, Nat.reduceEqDiff, ↓reduceIte, reduceCtorEq, Nat.reduceSub, Nat.reduceMul, Int32.reduceLT, Int32.reduceLE, Int32.reduceAdd, Int32.reduceMul, Int32.reduceSub, az_ne10, az_ne20, az_ne30, Nat.zero_le, cc61]
    refine Q61 (d := d + 2) h1 H hyl (by decide) fun I2 h2 => ?_
    rw [v0, e2]
    simp (maxDischargeDepth := 7) only [s97_301, s97_303, s97_306, s97_307, s97_309, s97_310, cc61, az_ex, az_bk0, az_bk1, az_bkx, az_cat0, az_cati, az_catr, az_catl, az_vi, az_vr, az_bo0, az_bo1, az_boi, true_and, and_true, if_true, if_false, ne_eq, not_true_eq_false, not_false_eq_true, List.set_cons_zero, List.set_cons_succ, Nat.reduceAdd, Nat.reduceLeDiff, Nat.reduceEqDiff, ↓reduceIte, reduceCtorEq, Nat.reduceSub, Nat.reduceMul, Int32.reduceLT, Int32.reduceLE, Int32.reduceAdd, Int32.reduceMul, Int32.reduceSub, az_ne10, az_ne20, az_ne30, Nat.zero_le, cc61]
    refine Q61 (d := d + 2) h2 H hyl (by decide) fun I3 h3 => ?_
    rw [v2]
    simp (maxDischargeDepth := 7) only [s97_313, s97_316, s97_318, s97_320, s97_323, s97_325, s97_326, cc59, az_ex, az_bk0, az_bk1, az_bkx, az_cat0, az_cati, az_catr, az_catl, az_vi, az_vr, az_bo0, az_bo1, az_boi, true_and, and_true, if_true, if_false, ne_eq, not_true_eq_false, not_false_eq_true, List.set_cons_zero, List.set_cons_succ, Nat.reduceAdd, Nat.reduceLeDiff, Nat.reduceEqDiff, ↓reduceIte, reduceCtorEq, Nat.reduceSub, Nat.reduceMul, Int32.reduceLT, Int32.reduceLE, Int32.reduceAdd, Int32.reduceMul, Int32.reduceSub, az_ne10, az_ne20, az_ne30, Nat.zero_le, cc59, e3', e5']
    refine month_o (d := d + 2) (s := s) (s2 := s2) h3 (Or.inr fun I4 h4 => ?_)
    rw [n1]
    simp (maxDischargeDepth := 7) only [s97_329, s97_332, s97_333, s97_336, s97_337, s97_338, s97_340, s97_342, s97_344, s97_345, s97_347, s97_348, cc61, az_ex, az_bk0, az_bk1, az_bkx, az_cat0, az_cati, az_catr, az_catl, az_vi, az_vr, az_bo0, az_bo1, az_boi, true_and, and_true, if_true, if_false, ne_eq, not_true_eq_false, not_false_eq_true, List.set_cons_zero, List.set_cons_succ, Nat.reduceAdd, Nat.reduceLeDiff, Nat.reduceEqDiff, ↓reduceIte, reduceCtorEq, Nat.reduceSub, Nat.reduceMul, Int32.reduceLT, Int32.reduceLE, Int32.reduceAdd, Int32.reduceMul, Int32.reduceSub, az_ne10, az_ne20, az_ne30, Nat.zero_le, cc61, e4']
    refine Q61 (d := d + 2) h4 H hyl (by decide) fun I5 h5 => ?_
    rw [v2]
    simp (maxDischargeDepth := 7) only [s97_351, s97_352, s97_354, s97_357, s97_358, s97_360, s97_362, cc62, az_ex, az_bk0, az_bk1, az_bkx, az_cat0, az_cati, az_catr, az_catl, az_vi, az_vr, az_bo0, az_bo1, az_boi, true_and, and_true, if_true, if_false, ne_eq, not_true_eq_false, not_false_eq_true, List.set_cons_zero, List.set_cons_succ, Nat.reduceAdd, Nat.reduceLeDiff, Nat.reduceEqDiff, ↓reduceIte, reduceCtorEq, Nat.reduceSub, Nat.reduceMul, Int32.reduceLT, Int32.reduceLE, Int32.reduceAdd, Int32.reduceMul, Int32.reduceSub, az_ne10, az_ne20, az_ne30, Nat.zero_le, cc62, nI_1]
    refine Q62 (d := d + 2) h5 H hkc (by rw [show (0 : Int32) = nI 0 from rfl, bz_le (by omega) (by omega)]; omega) fun I6 h6 => ?_
    rw [odr hkc' (by rw [show (0 : Int32) = nI 0 from rfl, bz_le (by omega) (by omega)]; omega), nI_clamp (show i + 1 < 2 ^ 31 by omega)]
    simp (maxDischargeDepth := 7) only [s97_365, s97_367, az_ex, az_bk0, az_bk1, az_bkx, az_cat0, az_cati, az_catr, az_catl, az_vi, az_vr, az_bo0, az_bo1, az_boi, true_and, and_true, if_true, if_false, ne_eq, not_true_eq_false, not_false_eq_true, List.set_cons_zero, List.set_cons_succ, Nat.reduceAdd, Nat.reduceLeDiff, Nat.reduceEqDiff, ↓reduceIte, reduceCtorEq, Nat.reduceSub, Nat.reduceMul, Int32.reduceLT, Int32.reduceLE, Int32.reduceAdd, Int32.reduceMul, Int32.reduceSub, az_ne10, az_ne20, az_ne30, Nat.zero_le]
    have := hK I6 (some (.int (enE s y))) h6
    simp only [bz_lt (show i + 1 < 2 ^ 31 by omega) (show (ordS s (nI k)).length < 2 ^ 31 by omega)]
    exact this
  simp (maxDischargeDepth := 7) only [s97_260, s97_262, s97_265, s97_266, s97_269, s97_270, s97_272, s97_273, cc61, az_ex, az_bk0, az_bk1, az_bkx, az_cat0, az_cati, az_catr, az_catl, az_vi, az_vr, az_bo0, az_bo1, az_boi, true_and, and_true, if_true, if_false, ne_eq, not_true_eq_false, not_false_eq_true, List.set_cons_zero, List.set_cons_succ, Nat.reduceAdd, Nat.reduceLeDiff, Nat.reduceEqDiff, ↓reduceIte, reduceCtorEq, Nat.reduceSub, Nat.reduceMul, Int32.reduceLT, Int32.reduceLE, Int32.reduceAdd, Int32.reduceMul, Int32.reduceSub, az_ne10, az_ne20, az_ne30, Nat.zero_le, az_q0_1, az_q0_2, az_q0_3, az_q0_4, az_q0_5, az_q0_6, az_q0_7, az_q0_8, az_q1_0, az_q1_2, az_q1_3, az_q1_4, az_q1_5, az_q1_6, az_q1_7, az_q1_8, az_q2_0, az_q2_1, az_q2_3, az_q2_4, az_q2_5, az_q2_6, az_q2_7, az_q2_8, az_q3_0, az_q3_1, az_q3_2, az_q3_4, az_q3_5, az_q3_6, az_q3_7, az_q3_8, az_q4_0, az_q4_1, az_q4_2, az_q4_3, az_q4_5, az_q4_6, az_q4_7, az_q4_8, az_q5_0, az_q5_1, az_q5_2, az_q5_3, az_q5_4, az_q5_6, az_q5_7, az_q5_8, az_q6_0, az_q6_1, az_q6_2, az_q6_3, az_q6_4, az_q6_5, az_q6_7, az_q6_8, az_q7_0, az_q7_1, az_q7_2, az_q7_3, az_q7_4, az_q7_5, az_q7_6, az_q7_8, az_q8_0, az_q8_1, az_q8_2, az_q8_3, az_q8_4, az_q8_5, az_q8_6, az_q8_7, az_z10, az_z60, az_z100, az_z1000, az_z1001, az_z10000, cc61, g1]
  refine Q61 (d := d + 2) hS H hyl (by decide) fun I1 h1 => ?_
  rw [v3]
  by_cases hb : s 33 y < 0
  · have hE : enE s y = 9999 := if_pos hb
    have hb' : (0 ≤ s 33 y) = False := by rw [bz_nlt]; simp [hb]
    simp (maxDischargeDepth := 7) only [s97_276, s97_279, s97_282, az_ex, az_bk0, az_bk1, az_bkx, az_cat0, az_cati, az_catr, az_catl, az_vi, az_vr, az_bo0, az_bo1, az_boi, true_and, and_true, if_true, if_false, ne_eq, not_true_eq_false, not_false_eq_true, List.set_cons_zero, List.set_cons_succ, Nat.reduceAdd, Nat.reduceLeDiff, Nat.reduceEqDiff, ↓reduceIte, reduceCtorEq, Nat.reduceSub, Nat.reduceMul, Int32.reduceLT, Int32.reduceLE, Int32.reduceAdd, Int32.reduceMul, Int32.reduceSub, az_ne10, az_ne20, az_ne30, Nat.zero_le, hb']
    have := hEk I1 h1
    rw [hE] at this
    exact this
  · have hE : enE s y = s 33 y := if_neg hb
    have hb' : (0 ≤ s 33 y) = True := by rw [bz_nlt]; simp [hb]
    simp (maxDischargeDepth := 7) only [s97_276, s97_279, s97_282, s97_285, s97_286, s97_288, s97_289, cc61, az_ex, az_bk0, az_bk1, az_bkx, az_cat0, az_cati, az_catr, az_catl, az_vi, az_vr, az_bo0, az_bo1, az_boi, true_and, and_true, if_true, if_false, ne_eq, not_true_eq_false, not_false_eq_true, List.set_cons_zero, List.set_cons_succ, Nat.reduceAdd, Nat.reduceLeDiff, Nat.reduceEqDiff, ↓reduceIte, reduceCtorEq, Nat.reduceSub, Nat.reduceMul, Int32.reduceLT, Int32.reduceLE, Int32.reduceAdd, Int32.reduceMul, Int32.reduceSub, az_ne10, az_ne20, az_ne30, Nat.zero_le, hb', cc61]
    refine Q61 (d := d + 2) h1 H hyl (by decide) fun I2 h2 => ?_
    rw [v3]
    simp (maxDischargeDepth := 7) only [az_ex, az_bk0, az_bk1, az_bkx, az_cat0, az_cati, az_catr, az_catl, az_vi, az_vr, az_bo0, az_bo1, az_boi, true_and, and_true, if_true, if_false, ne_eq, not_true_eq_false, not_false_eq_true, List.set_cons_zero, List.set_cons_succ, Nat.reduceAdd, Nat.reduceLeDiff, Nat.reduceEqDiff, ↓reduceIte, reduceCtorEq, Nat.reduceSub, Nat.reduceMul, Int32.reduceLT, Int32.reduceLE, Int32.reduceAdd, Int32.reduceMul, Int32.reduceSub, az_ne10, az_ne20, az_ne30, Nat.zero_le]
    have := hEk I2 h2
    rw [hE] at this
    exact this
theorem ko2 (H : PC s mo nc nl ng np t) (hF : KF s mo nc nl np) {k : Nat} (hk : k < nc) (hlen : (ordS s (nI k)).length ≤ 60) {al cs : Int32} : ∀ (m i : Nat) (I : St) (bf : Int32) (o10 : Option Value), i + m = (ordS s (nI k)).length → (∀ j, j < (ordS s (nI k)).length → i ≤ j → ¬ enE s ((ordS s (nI k)).getD j 0) < bf) → St2 I s s2 →
    (∀ I' bf o10, St2 I' s s2 → az_W xs (d + 14) 97 260 [some (.ref 0), some (.int 1), some (.int (nI nl)), some (.int al), some (.int cs), some (.int (nI k)), some (.int (sumU s (ordS s (nI k)) (ordS s (nI k)).length)), some (.int (nI (ordS s (nI k)).length)), some (.int bf), some (.int (-1)), o10] [] (az_S, I', J, c, z) K) →
    az_W xs (d + 14) 97 260 [some (.ref 0), some (.int 1), some (.int (nI nl)), some (.int al), some (.int cs), some (.int (nI k)), some (.int (sumU s (ordS s (nI k)) i)), some (.int (nI i)), some (.int bf), some (.int (if i < (ordS s (nI k)).length then nI ((ordS s (nI k)).getD i 0) else -1)), o10] [] (az_S, I, J, c, z) K := by
  intro m
  induction m with
  | zero =>
    intro i I bf o10 hi _ hS hK
    obtain rfl : i = (ordS s (nI k)).length := by omega
    rw [if_neg (Nat.lt_irrefl _)]
    exact hK I bf o10 hS
  | succ m ih =>
    intro i I bf o10 hi hbf hS hK
    have hlt : i < (ordS s (nI k)).length := by omega
    rw [if_pos hlt]
    obtain ⟨c1, c2, -⟩ := hF.2.1 k hk
    have hmem : (ordS s (nI k)).getD i 0 ∈ ordS s (nI k) := by rw [gD_e hlt]; exact List.getElem_mem hlt
    obtain ⟨e1, e2, e3, e4⟩ := c1 _ hmem
    refine ko1 H hk hlt hlen rfl e1 e2 e3 e4 (hbf i hlt (Nat.le_refl _)) hS fun I1 o10 h1 => ?_
    rw [← sumU_s hlt]
    refine ih (i + 1) I1 _ o10 (by omega) (fun j hj hij => ?_) h1 hK
    rw [gD_e hj, gD_e hlt]
    have := List.pairwise_iff_getElem.mp c2 i j hlt hj (by omega)
    have h5 := Int32.le_iff_toInt_le.mp this
    intro h6
    have := Int32.lt_iff_toInt_lt.mp h6
    omega
set_option maxRecDepth 4000 in
theorem kc1 (ht : t < 600) (H : PC s mo nc nl ng np t) (hF : KF s mo nc nl np) {k : Nat} (hk : k < nc) (hlen : (ordS s (nI k)).length ≤ 60) {al cs : Int32} {o6 o7 o8 o9 o10 : Option Value} (hS : St2 I s s2)
    (hK : ∀ I' c' z' o6 o7 o8 o9 o10, St2 I' s s2 → c' ≤ c + 1 → z' ≤ z + 6 → az_W xs (d + 14) 97 212 [some (.ref 0), some (.int 1), some (.int (nI nl)), some (.int al), some (.int (cs + balS s (nI k))), some (.int (nI (k + 1))), o6, o7, o8, o9, o10] [] (az_S, I', J, c', z') K) :
    az_W xs (d + 14) 97 212 [some (.ref 0), some (.int 1), some (.int (nI nl)), some (.int al), some (.int cs), some (.int (nI k)), o6, o7, o8, o9, o10] [] (az_S, I, J, c, z) K := by
  have n6 := H.1.2.1.2
  have enc : ncN s = nc := by unfold ncN; rw [H.1.2.1.1, nI_clamp (by omega)]
  have n1 : s 0 6 = nI mo := H.1.1.1
  have hkc : az_in (nI k) nc = true := by rw [az_in_nI (by omega)]; simp [hk]
  have hkc' : az_in (nI k) (ncN s) = true := by rw [enc]; exact hkc
  have hkk := nI_clamp (show k < 2 ^ 31 by omega)
  have v0 := cd0 hkc'
  have v1 := cd1 hkc'
  have v2 := cd2 hkc'
  have v3 := cd3 hkc'
  have v6 := cd6 hkc'
  rw [hkk] at v0 v2 v3
  obtain ⟨c1, c2, c3, c5, c6, c7⟩ := hF.2.1 k hk
  have q9 := H.2.2.2.2.1.1 k hk
  have g24 : (s 24 k < 0) = False := by
    have h9 := az_int.mp q9.2.2.2.1
    apply eq_false
    rw [az_lt0]
    omega
  have g26 : (3 ≤ s 26 k) = False := by
    rcases bz_m3 q9.2.2.2.2 with h | h | h <;> rw [h] <;> decide
  have c6' := eq_false c6
  have c7' := eq_false c7
  simp (maxDischargeDepth := 7) only [s97_212, s97_213, s97_215, s97_217, s97_218, s97_219, s97_220, cc91, az_ex, az_bk0, az_bk1, az_bkx, az_cat0, az_cati, az_catr, az_catl, az_vi, az_vr, az_bo0, az_bo1, az_boi, true_and, and_true, if_true, if_false, ne_eq, not_true_eq_false, not_false_eq_true, List.set_cons_zero, List.set_cons_succ, Nat.reduceAdd, Nat.reduceLeDiff, Nat.reduceEqDiff, ↓reduceIte, reduceCtorEq, Nat.reduceSub, Nat.reduceMul, Int32.reduceLT, Int32.reduceLE, Int32.reduceAdd, Int32.reduceMul, Int32.reduceSub, az_ne10, az_ne20, az_ne30, Nat.zero_le]
  refine do_o (n := 18) (by decide) ht hS H fun I1 z1 w1 hS1 hc1 hz1 => ?_
  rw [q2 (by decide) (by decide)] at hS1
  have ev : (fdo 18 (nI k) 0 0 0 s).1 = s 24 k := v0
  rw [ev]
  simp (maxDischargeDepth := 7) only [s97_223, s97_226, s97_227, s97_230, s97_232, s97_233, s97_235, s97_236, cc60, az_ex, az_bk0, az_bk1, az_bkx, az_cat0, az_cati, az_catr, az_catl, az_vi, az_vr, az_bo0, az_bo1, az_boi, true_and, and_true, if_true, if_false, ne_eq, not_true_eq_false, not_false_eq_true, List.set_cons_zero, List.set_cons_succ, Nat.reduceAdd, Nat.reduceLeDiff, Nat.reduceEqDiff, ↓reduceIte, reduceCtorEq, Nat.reduceSub, Nat.reduceMul, Int32.reduceLT, Int32.reduceLE, Int32.reduceAdd, Int32.reduceMul, Int32.reduceSub, az_ne10, az_ne20, az_ne30, Nat.zero_le, az_q0_1, az_q0_2, az_q0_3, az_q0_4, az_q0_5, az_q0_6, az_q0_7, az_q0_8, az_q1_0, az_q1_2, az_q1_3, az_q1_4, az_q1_5, az_q1_6, az_q1_7, az_q1_8, az_q2_0, az_q2_1, az_q2_3, az_q2_4, az_q2_5, az_q2_6, az_q2_7, az_q2_8, az_q3_0, az_q3_1, az_q3_2, az_q3_4, az_q3_5, az_q3_6, az_q3_7, az_q3_8, az_q4_0, az_q4_1, az_q4_2, az_q4_3, az_q4_5, az_q4_6, az_q4_7, az_q4_8, az_q5_0, az_q5_1, az_q5_2, az_q5_3, az_q5_4, az_q5_6, az_q5_7, az_q5_8, az_q6_0, az_q6_1, az_q6_2, az_q6_3, az_q6_4, az_q6_5, az_q6_7, az_q6_8, az_q7_0, az_q7_1, az_q7_2, az_q7_3, az_q7_4, az_q7_5, az_q7_6, az_q7_8, az_q8_0, az_q8_1, az_q8_2, az_q8_3, az_q8_4, az_q8_5, az_q8_6, az_q8_7, az_z10, az_z60, az_z100, az_z1000, az_z1001, az_z10000, g24, cc60]
  refine Q60 (d := d + 2) hS1 H hkc (by decide) fun I2 h2 => ?_
  rw [v1]
  simp (maxDischargeDepth := 7) only [s97_239, s97_240, s97_242, s97_243, s97_245, s97_246, s97_248, s97_249, s97_251, s97_252, s97_254, s97_255, cc62, az_ex, az_bk0, az_bk1, az_bkx, az_cat0, az_cati, az_catr, az_catl, az_vi, az_vr, az_bo0, az_bo1, az_boi, true_and, and_true, if_true, if_false, ne_eq, not_true_eq_false, not_false_eq_true, List.set_cons_zero, List.set_cons_succ, Nat.reduceAdd, Nat.reduceLeDiff, Nat.reduceEqDiff, ↓reduceIte, reduceCtorEq, Nat.reduceSub, Nat.reduceMul, Int32.reduceLT, Int32.reduceLE, Int32.reduceAdd, Int32.reduceMul, Int32.reduceSub, az_ne10, az_ne20, az_ne30, Nat.zero_le, cc62]
  refine Q62 (d := d + 2) h2 H hkc (by decide) fun I3 h3 => ?_
  rw [odr hkc' (by decide), az_c0]
  simp (maxDischargeDepth := 7) only [s97_258, az_ex, az_bk0, az_bk1, az_bkx, az_cat0, az_cati, az_catr, az_catl, az_vi, az_vr, az_bo0, az_bo1, az_boi, true_and, and_true, if_true, if_false, ne_eq, not_true_eq_false, not_false_eq_true, List.set_cons_zero, List.set_cons_succ, Nat.reduceAdd, Nat.reduceLeDiff, Nat.reduceEqDiff, ↓reduceIte, reduceCtorEq, Nat.reduceSub, Nat.reduceMul, Int32.reduceLT, Int32.reduceLE, Int32.reduceAdd, Int32.reduceMul, Int32.reduceSub, az_ne10, az_ne20, az_ne30, Nat.zero_le]
  have h0 : (0 < nI (ordS s (nI k)).length) = (0 < (ordS s (nI k)).length) := bz_lt (n := 0) (by omega) (by omega)
  simp only [h0]
  refine az_W_cg (L' := [some (.ref 0), some (.int 1), some (.int (nI nl)), some (.int al), some (.int (cs + balS s (nI k))), some (.int (nI k)), some (.int (sumU s (ordS s (nI k)) 0)), some (.int (nI 0)), some (.int (-1)), some (.int (if 0 < (ordS s (nI k)).length then nI ((ordS s (nI k)).getD 0 0) else -1)), o10]) rfl rfl ?_
  refine ko2 H hF hk hlen (ordS s (nI k)).length 0 I3 (-1) o10 (by omega) (fun j hj _ => ?_) h3 fun I4 bf o10 h4 => ?_
  · have hmem : (ordS s (nI k)).getD j 0 ∈ ordS s (nI k) := by rw [gD_e hj]; exact List.getElem_mem hj
    have h9 := (c1 _ hmem).2.2.2
    intro h10
    have h11 := Int32.lt_iff_toInt_lt.mp h9
    have h12 := Int32.lt_iff_toInt_lt.mp h10
    rw [nI_toInt (by have := H.1.1.2; omega)] at h11
    rw [show (-1 : Int32).toInt = -1 by decide] at h12
    omega
  have es : sumU s (ordS s (nI k)) (ordS s (nI k)).length = balS s (nI k) := by
    unfold sumU
    rw [List.take_length]
    exact c3
  rw [es]
  have gm : ((-1 : Int32) < 0) = True := by decide
  simp (maxDischargeDepth := 7) only [s97_260, s97_262, s97_370, s97_371, s97_374, s97_376, s97_377, s97_379, s97_380, cc60, az_ex, az_bk0, az_bk1, az_bkx, az_cat0, az_cati, az_catr, az_catl, az_vi, az_vr, az_bo0, az_bo1, az_boi, true_and, and_true, if_true, if_false, ne_eq, not_true_eq_false, not_false_eq_true, List.set_cons_zero, List.set_cons_succ, Nat.reduceAdd, Nat.reduceLeDiff, Nat.reduceEqDiff, ↓reduceIte, reduceCtorEq, Nat.reduceSub, Nat.reduceMul, Int32.reduceLT, Int32.reduceLE, Int32.reduceAdd, Int32.reduceMul, Int32.reduceSub, az_ne10, az_ne20, az_ne30, Nat.zero_le, az_q0_1, az_q0_2, az_q0_3, az_q0_4, az_q0_5, az_q0_6, az_q0_7, az_q0_8, az_q1_0, az_q1_2, az_q1_3, az_q1_4, az_q1_5, az_q1_6, az_q1_7, az_q1_8, az_q2_0, az_q2_1, az_q2_3, az_q2_4, az_q2_5, az_q2_6, az_q2_7, az_q2_8, az_q3_0, az_q3_1, az_q3_2, az_q3_4, az_q3_5, az_q3_6, az_q3_7, az_q3_8, az_q4_0, az_q4_1, az_q4_2, az_q4_3, az_q4_5, az_q4_6, az_q4_7, az_q4_8, az_q5_0, az_q5_1, az_q5_2, az_q5_3, az_q5_4, az_q5_6, az_q5_7, az_q5_8, az_q6_0, az_q6_1, az_q6_2, az_q6_3, az_q6_4, az_q6_5, az_q6_7, az_q6_8, az_q7_0, az_q7_1, az_q7_2, az_q7_3, az_q7_4, az_q7_5, az_q7_6, az_q7_8, az_q8_0, az_q8_1, az_q8_2, az_q8_3, az_q8_4, az_q8_5, az_q8_6, az_q8_7, az_z10, az_z60, az_z100, az_z1000, az_z1001, az_z10000, gm, cc60]
  refine Q60 (d := d + 2) h4 H hkc (by decide) fun I5 h5 => ?_
  rw [v1]
  simp (maxDischargeDepth := 7) only [s97_383, s97_386, s97_387, s97_389, s97_390, cc60, az_ex, az_bk0, az_bk1, az_bkx, az_cat0, az_cati, az_catr, az_catl, az_vi, az_vr, az_bo0, az_bo1, az_boi, true_and, and_true, if_true, if_false, ne_eq, not_true_eq_false, not_false_eq_true, List.set_cons_zero, List.set_cons_succ, Nat.reduceAdd, Nat.reduceLeDiff, Nat.reduceEqDiff, ↓reduceIte, reduceCtorEq, Nat.reduceSub, Nat.reduceMul, Int32.reduceLT, Int32.reduceLE, Int32.reduceAdd, Int32.reduceMul, Int32.reduceSub, az_ne10, az_ne20, az_ne30, Nat.zero_le, cc60]
  refine Q60 (d := d + 2) h5 H hkc (by decide) fun I6 h6 => ?_
  rw [v3]
  simp (maxDischargeDepth := 7) only [s97_393, s97_394, s97_397, s97_398, s97_400, s97_401, cc60, az_ex, az_bk0, az_bk1, az_bkx, az_cat0, az_cati, az_catr, az_catl, az_vi, az_vr, az_bo0, az_bo1, az_boi, true_and, and_true, if_true, if_false, ne_eq, not_true_eq_false, not_false_eq_true, List.set_cons_zero, List.set_cons_succ, Nat.reduceAdd, Nat.reduceLeDiff, Nat.reduceEqDiff, ↓reduceIte, reduceCtorEq, Nat.reduceSub, Nat.reduceMul, Int32.reduceLT, Int32.reduceLE, Int32.reduceAdd, Int32.reduceMul, Int32.reduceSub, az_ne10, az_ne20, az_ne30, Nat.zero_le, cc60, g26]
  refine Q60 (d := d + 2) h6 H hkc (by decide) fun I7 h7 => ?_
  rw [v0]
  have tail : ∀ I7, St2 I7 s s2 → az_W xs (d + 14) 97 413 [some (.ref 0), some (.int 1), some (.int (nI nl)), some (.int al), some (.int (cs + balS s (nI k))), some (.int (nI k)), some (.int (balS s (nI k))), some (.int (nI (ordS s (nI k)).length)), some (.int bf), some (.int (-1)), o10] [] (az_S, I7, J, z1, w1) K := by
    intro I7 h7
    simp (maxDischargeDepth := 7) only [s97_413, s97_414, s97_416, s97_418, cc60, az_ex, az_bk0, az_bk1, az_bkx, az_cat0, az_cati, az_catr, az_catl, az_vi, az_vr, az_bo0, az_bo1, az_boi, true_and, and_true, if_true, if_false, ne_eq, not_true_eq_false, not_false_eq_true, List.set_cons_zero, List.set_cons_succ, Nat.reduceAdd, Nat.reduceLeDiff, Nat.reduceEqDiff, ↓reduceIte, reduceCtorEq, Nat.reduceSub, Nat.reduceMul, Int32.reduceLT, Int32.reduceLE, Int32.reduceAdd, Int32.reduceMul, Int32.reduceSub, az_ne10, az_ne20, az_ne30, Nat.zero_le, cc60]
    refine Q60 (d := d + 2) h7 H hkc (by decide) fun I8 h8 => ?_
    rw [v6]
    simp (maxDischargeDepth := 7) only [s97_421, s97_424, s97_425, s97_427, s97_428, cc60, az_ex, az_bk0, az_bk1, az_bkx, az_cat0, az_cati, az_catr, az_catl, az_vi, az_vr, az_bo0, az_bo1, az_boi, true_and, and_true, if_true, if_false, ne_eq, not_true_eq_false, not_false_eq_true, List.set_cons_zero, List.set_cons_succ, Nat.reduceAdd, Nat.reduceLeDiff, Nat.reduceEqDiff, ↓reduceIte, reduceCtorEq, Nat.reduceSub, Nat.reduceMul, Int32.reduceLT, Int32.reduceLE, Int32.reduceAdd, Int32.reduceMul, Int32.reduceSub, az_ne10, az_ne20, az_ne30, Nat.zero_le, cc60, c6']
    refine Q60 (d := d + 2) h8 H hkc (by decide) fun I9 h9 => ?_
    rw [v2]
    simp (maxDischargeDepth := 7) only [s97_431, s97_432, cc59, az_ex, az_bk0, az_bk1, az_bkx, az_cat0, az_cati, az_catr, az_catl, az_vi, az_vr, az_bo0, az_bo1, az_boi, true_and, and_true, if_true, if_false, ne_eq, not_true_eq_false, not_false_eq_true, List.set_cons_zero, List.set_cons_succ, Nat.reduceAdd, Nat.reduceLeDiff, Nat.reduceEqDiff, ↓reduceIte, reduceCtorEq, Nat.reduceSub, Nat.reduceMul, Int32.reduceLT, Int32.reduceLE, Int32.reduceAdd, Int32.reduceMul, Int32.reduceSub, az_ne10, az_ne20, az_ne30, Nat.zero_le, cc59]
    refine month_o (d := d + 2) (s := s) (s2 := s2) h9 (Or.inr fun I10 h10 => ?_)
    simp (maxDischargeDepth := 7) only [s97_435, s97_438, s97_439, s97_442, s97_443, s97_444, s97_447, az_ex, az_bk0, az_bk1, az_bkx, az_cat0, az_cati, az_catr, az_catl, az_vi, az_vr, az_bo0, az_bo1, az_boi, true_and, and_true, if_true, if_false, ne_eq, not_true_eq_false, not_false_eq_true, List.set_cons_zero, List.set_cons_succ, Nat.reduceAdd, Nat.reduceLeDiff, Nat.reduceEqDiff, ↓reduceIte, reduceCtorEq, Nat.reduceSub, Nat.reduceMul, Int32.reduceLT, Int32.reduceLE, Int32.reduceAdd, Int32.reduceMul, Int32.reduceSub, az_ne10, az_ne20, az_ne30, Nat.zero_le, c7', nI_1]
    exact hK I10 z1 w1 _ _ _ _ _ h10 hc1 hz1
  by_cases c9 : s 24 k < 2
  · have c9' := eq_true c9
    simp (maxDischargeDepth := 7) only [s97_404, s97_405, az_ex, az_bk0, az_bk1, az_bkx, az_cat0, az_cati, az_catr, az_catl, az_vi, az_vr, az_bo0, az_bo1, az_boi, true_and, and_true, if_true, if_false, ne_eq, not_true_eq_false, not_false_eq_true, List.set_cons_zero, List.set_cons_succ, Nat.reduceAdd, Nat.reduceLeDiff, Nat.reduceEqDiff, ↓reduceIte, reduceCtorEq, Nat.reduceSub, Nat.reduceMul, Int32.reduceLT, Int32.reduceLE, Int32.reduceAdd, Int32.reduceMul, Int32.reduceSub, az_ne10, az_ne20, az_ne30, Nat.zero_le, c9']
    exact tail I7 h7
  · have c9' := eq_false c9
    have c10 : (balS s (nI k) = 0) = True := eq_true (c5.elim (fun h => absurd h c9) id)
    simp (maxDischargeDepth := 7) only [s97_404, s97_405, s97_408, s97_410, az_ex, az_bk0, az_bk1, az_bkx, az_cat0, az_cati, az_catr, az_catl, az_vi, az_vr, az_bo0, az_bo1, az_boi, true_and, and_true, if_true, if_false, ne_eq, not_true_eq_false, not_false_eq_true, List.set_cons_zero, List.set_cons_succ, Nat.reduceAdd, Nat.reduceLeDiff, Nat.reduceEqDiff, ↓reduceIte, reduceCtorEq, Nat.reduceSub, Nat.reduceMul, Int32.reduceLT, Int32.reduceLE, Int32.reduceAdd, Int32.reduceMul, Int32.reduceSub, az_ne10, az_ne20, az_ne30, Nat.zero_le, c9', c10]
    exact tail I7 h7
theorem kc2 (ht : t < 600) (H : PC s mo nc nl ng np t) (hF : KF s mo nc nl np) (hlen : ∀ k, k < nc → (ordS s (nI k)).length ≤ 60) {al : Int32} : ∀ (m k : Nat) (I : St) (c z : Nat) (cs : Int32) (o6 o7 o8 o9 o10 : Option Value), k + m = nc → cs = fd (fun k v => v + balS s (nI k)) k 0 0 → St2 I s s2 →
    (∀ I' c' z' o6 o7 o8 o9 o10, St2 I' s s2 → c' ≤ c + (m + 1) → z' ≤ z + 6 * (m + 1) → az_W xs (d + 14) 97 450 [some (.ref 0), some (.int 1), some (.int (nI nl)), some (.int al), some (.int (fd (fun k v => v + balS s (nI k)) nc 0 0)), some (.int (nI nc)), o6, o7, o8, o9, o10] [] (az_S, I', J, c', z') K) →
    az_W xs (d + 14) 97 212 [some (.ref 0), some (.int 1), some (.int (nI nl)), some (.int al), some (.int cs), some (.int (nI k)), o6, o7, o8, o9, o10] [] (az_S, I, J, c, z) K := by
  have n6 := H.1.2.1.2
  have enc : ncN s = nc := by unfold ncN; rw [H.1.2.1.1, nI_clamp (by omega)]
  intro m
  induction m with
  | zero =>
    intro k I c z cs o6 o7 o8 o9 o10 hk hcs hS hK
    obtain rfl : k = nc := by omega
    subst hcs
    simp (maxDischargeDepth := 7) only [s97_212, s97_213, s97_215, s97_217, s97_218, s97_219, s97_220, cc91, az_ex, az_bk0, az_bk1, az_bkx, az_cat0, az_cati, az_catr, az_catl, az_vi, az_vr, az_bo0, az_bo1, az_boi, true_and, and_true, if_true, if_false, ne_eq, not_true_eq_false, not_false_eq_true, List.set_cons_zero, List.set_cons_succ, Nat.reduceAdd, Nat.reduceLeDiff, Nat.reduceEqDiff, ↓reduceIte, reduceCtorEq, Nat.reduceSub, Nat.reduceMul, Int32.reduceLT, Int32.reduceLE, Int32.reduceAdd, Int32.reduceMul, Int32.reduceSub, az_ne10, az_ne20, az_ne30, Nat.zero_le]
    refine do_o (n := 18) (by decide) ht hS H fun I1 z1 w1 hS1 hc1 hz1 => ?_
    rw [q2 (by decide) (by decide)] at hS1
    have ev : (fdo 18 (nI k) 0 0 0 s).1 = bad := cdn (by rw [enc, az_in_nI (by omega)]; simp)
    rw [ev]
    simp (maxDischargeDepth := 7) only [s97_223, s97_226, s97_227, az_ex, az_bk0, az_bk1, az_bkx, az_cat0, az_cati, az_catr, az_catl, az_vi, az_vr, az_bo0, az_bo1, az_boi, true_and, and_true, if_true, if_false, ne_eq, not_true_eq_false, not_false_eq_true, List.set_cons_zero, List.set_cons_succ, Nat.reduceAdd, Nat.reduceLeDiff, Nat.reduceEqDiff, ↓reduceIte, reduceCtorEq, Nat.reduceSub, Nat.reduceMul, Int32.reduceLT, Int32.reduceLE, Int32.reduceAdd, Int32.reduceMul, Int32.reduceSub, az_ne10, az_ne20, az_ne30, Nat.zero_le, bd0]
    exact hK I1 z1 w1 _ _ _ _ _ hS1 (by omega) (by omega)
  | succ m ih =>
    intro k I c z cs o6 o7 o8 o9 o10 hk hcs hS hK
    refine kc1 ht H hF (show k < nc by omega) (hlen k (by omega)) hS fun I1 c1 z1 o6 o7 o8 o9 o10 h1 g1 g2 => ?_
    refine ih (k + 1) I1 c1 z1 _ _ _ _ _ _ (by omega) ?_ h1 fun I2 c2 z2 o6 o7 o8 o9 o10 h2 g3 g4 => hK I2 c2 z2 _ _ _ _ _ h2 (by omega) (by omega)
    rw [hcs, fd_split (h := fun k v => v + balS s (nI k)) k 1 0 0, Nat.zero_add]
    rfl
theorem kp1 (H : PC s mo nc nl ng np t) {p : Nat} (hp : p < np) {al cs : Int32} : ∀ (m j : Nat) (I : St) (sm : Int32) (o8 o9 o10 : Option Value), j + m = nl → sm = fd (fun j v => v + s (112 + p) j) j 0 0 → St2 I s s2 →
    (∀ I' , St2 I' s s2 → az_W xs (d + 14) 97 502 [some (.ref 0), some (.int 1), some (.int (nI nl)), some (.int al), some (.int cs), some (.int (nI p)), some (.int (fd (fun j v => v + s (112 + p) j) nl 0 0)), some (.int (nI nl)), o8, o9, o10] [] (az_S, I', J, c, z) K) →
    az_W xs (d + 14) 97 477 [some (.ref 0), some (.int 1), some (.int (nI nl)), some (.int al), some (.int cs), some (.int (nI p)), some (.int sm), some (.int (nI j)), o8, o9, o10] [] (az_S, I, J, c, z) K := by
  have n9 := H.1.2.2.1.2
  have n15 := H.1.2.2.2.2.2
  have enl : nlN s = nl := by unfold nlN; rw [H.1.2.2.1.1, nI_clamp (by omega)]
  have enp : npN s = np := by unfold npN; rw [H.1.2.2.2.2.1, nI_clamp (by omega)]
  intro m
  induction m with
  | zero =>
    intro j I sm o8 o9 o10 hj hs hS hK
    obtain rfl : j = nl := by omega
    subst hs
    have g1 : (nI j ≤ nI j) = True := by rw [bz_le (by omega) (by omega)]; simp
    simp (maxDischargeDepth := 7) only [s97_477, s97_479, s97_480, az_ex, az_bk0, az_bk1, az_bkx, az_cat0, az_cati, az_catr, az_catl, az_vi, az_vr, az_bo0, az_bo1, az_boi, true_and, and_true, if_true, if_false, ne_eq, not_true_eq_false, not_false_eq_true, List.set_cons_zero, List.set_cons_succ, Nat.reduceAdd, Nat.reduceLeDiff, Nat.reduceEqDiff, ↓reduceIte, reduceCtorEq, Nat.reduceSub, Nat.reduceMul, Int32.reduceLT, Int32.reduceLE, Int32.reduceAdd, Int32.reduceMul, Int32.reduceSub, az_ne10, az_ne20, az_ne30, Nat.zero_le, g1]
    exact hK I hS
  | succ m ih =>
    intro j I sm o8 o9 o10 hj hs hS hK
    have g1 : (nI nl ≤ nI j) = False := by rw [bz_le (by omega) (by omega)]; simp; omega
    have hpa : az_in (nI p) np = true := by rw [az_in_nI (by omega)]; simp [hp]
    have hja : az_in (nI j) nl = true := by rw [az_in_nI (by omega)]; simp; omega
    simp (maxDischargeDepth := 7) only [s97_477, s97_479, s97_480, s97_483, s97_485, s97_486, s97_488, s97_490, cc64, az_ex, az_bk0, az_bk1, az_bkx, az_cat0, az_cati, az_catr, az_catl, az_vi, az_vr, az_bo0, az_bo1, az_boi, true_and, and_true, if_true, if_false, ne_eq, not_true_eq_false, not_false_eq_true, List.set_cons_zero, List.set_cons_succ, Nat.reduceAdd, Nat.reduceLeDiff, Nat.reduceEqDiff, ↓reduceIte, reduceCtorEq, Nat.reduceSub, Nat.reduceMul, Int32.reduceLT, Int32.reduceLE, Int32.reduceAdd, Int32.reduceMul, Int32.reduceSub, az_ne10, az_ne20, az_ne30, Nat.zero_le, g1, cc64]
    refine Q64 (d := d + 2) hS H hpa hja fun I1 h1 => ?_
    rw [tkn (by rw [enp]; exact hpa) (by rw [enl]; exact hja), nI_clamp (show p < 2 ^ 31 by omega), nI_clamp (show j < 2 ^ 31 by omega)]
    simp (maxDischargeDepth := 7) only [s97_493, s97_494, s97_496, s97_499, az_ex, az_bk0, az_bk1, az_bkx, az_cat0, az_cati, az_catr, az_catl, az_vi, az_vr, az_bo0, az_bo1, az_boi, true_and, and_true, if_true, if_false, ne_eq, not_true_eq_false, not_false_eq_true, List.set_cons_zero, List.set_cons_succ, Nat.reduceAdd, Nat.reduceLeDiff, Nat.reduceEqDiff, ↓reduceIte, reduceCtorEq, Nat.reduceSub, Nat.reduceMul, Int32.reduceLT, Int32.reduceLE, Int32.reduceAdd, Int32.reduceMul, Int32.reduceSub, az_ne10, az_ne20, az_ne30, Nat.zero_le, nI_1]
    refine ih (j + 1) I1 _ _ _ _ (by omega) ?_ h1 hK
    rw [hs, fd_split (h := fun j v => v + s (112 + p) j) j 1 0 0, Nat.zero_add]
    rfl
set_option maxRecDepth 4000 in
theorem kp2 (ht : t < 600) (H : PC s mo nc nl ng np t) (hF : KF s mo nc nl np) {al cs : Int32} : ∀ (m p : Nat) (I : St) (c z : Nat) (o6 o7 o8 o9 o10 : Option Value), p + m = np → St2 I s s2 →
    (∀ I' c' z' o6 o7 o8 o9 o10, St2 I' s s2 → c' ≤ c + (m + 1) → z' ≤ z + 6 * (m + 1) → az_W xs (d + 14) 97 553 [some (.ref 0), some (.int 1), some (.int (nI nl)), some (.int al), some (.int cs), some (.int (nI np)), o6, o7, o8, o9, o10] [] (az_S, I', J, c', z') K) →
    az_W xs (d + 14) 97 453 [some (.ref 0), some (.int 1), some (.int (nI nl)), some (.int al), some (.int cs), some (.int (nI p)), o6, o7, o8, o9, o10] [] (az_S, I, J, c, z) K := by
  have n9 := H.1.2.2.1.2
  have n15 := H.1.2.2.2.2.2
  have enp : npN s = np := by unfold npN; rw [H.1.2.2.2.2.1, nI_clamp (by omega)]
  intro m
  induction m with
  | zero =>
    intro p I c z o6 o7 o8 o9 o10 hj hS hK
    obtain rfl : p = np := by omega
    simp (maxDischargeDepth := 7) only [s97_453, s97_454, s97_456, s97_458, s97_459, s97_460, s97_461, cc91, az_ex, az_bk0, az_bk1, az_bkx, az_cat0, az_cati, az_catr, az_catl, az_vi, az_vr, az_bo0, az_bo1, az_boi, true_and, and_true, if_true, if_false, ne_eq, not_true_eq_false, not_false_eq_true, List.set_cons_zero, List.set_cons_succ, Nat.reduceAdd, Nat.reduceLeDiff, Nat.reduceEqDiff, ↓reduceIte, reduceCtorEq, Nat.reduceSub, Nat.reduceMul, Int32.reduceLT, Int32.reduceLE, Int32.reduceAdd, Int32.reduceMul, Int32.reduceSub, az_ne10, az_ne20, az_ne30, Nat.zero_le]
    refine do_o (n := 21) (by decide) ht hS H fun I1 z1 w1 hS1 hc1 hz1 => ?_
    rw [q2 (by decide) (by decide)] at hS1
    have ev : (fdo 21 (nI p) 0 0 0 s).1 = bad := pyn (by rw [enp, az_in_nI (by omega)]; simp)
    rw [ev]
    simp (maxDischargeDepth := 7) only [s97_464, s97_467, s97_468, az_ex, az_bk0, az_bk1, az_bkx, az_cat0, az_cati, az_catr, az_catl, az_vi, az_vr, az_bo0, az_bo1, az_boi, true_and, and_true, if_true, if_false, ne_eq, not_true_eq_false, not_false_eq_true, List.set_cons_zero, List.set_cons_succ, Nat.reduceAdd, Nat.reduceLeDiff, Nat.reduceEqDiff, ↓reduceIte, reduceCtorEq, Nat.reduceSub, Nat.reduceMul, Int32.reduceLT, Int32.reduceLE, Int32.reduceAdd, Int32.reduceMul, Int32.reduceSub, az_ne10, az_ne20, az_ne30, Nat.zero_le, bd0]
    exact hK I1 z1 w1 _ _ _ _ _ hS1 (by omega) (by omega)
  | succ m ih =>
    intro p I c z o6 o7 o8 o9 o10 hj hS hK
    have hp : p < np := by omega
    have hpa : az_in (nI p) np = true := by rw [az_in_nI (by omega)]; simp [hp]
    have hpa' : az_in (nI p) (npN s) = true := by rw [enp]; exact hpa
    have hpp := nI_clamp (show p < 2 ^ 31 by omega)
    have v0 := py0 hpa'
    have v1 := py1 hpa'
    have v2 := py2 hpa'
    have v4 := py4 hpa'
    rw [hpp] at v0 v1 v2 v4
    obtain ⟨p1, p2⟩ := hF.2.2.1 p hp
    have p2' := eq_false p2
    have g107 : (s 107 p < 0) = False := by
      have h9 := az_int.mp (H.2.2.2.2.2.2.2 p hp).1
      apply eq_false
      rw [az_lt0]
      omega
    simp (maxDischargeDepth := 7) only [s97_453, s97_454, s97_456, s97_458, s97_459, s97_460, s97_461, cc91, az_ex, az_bk0, az_bk1, az_bkx, az_cat0, az_cati, az_catr, az_catl, az_vi, az_vr, az_bo0, az_bo1, az_boi, true_and, and_true, if_true, if_false, ne_eq, not_true_eq_false, not_false_eq_true, List.set_cons_zero, List.set_cons_succ, Nat.reduceAdd, Nat.reduceLeDiff, Nat.reduceEqDiff, ↓reduceIte, reduceCtorEq, Nat.reduceSub, Nat.reduceMul, Int32.reduceLT, Int32.reduceLE, Int32.reduceAdd, Int32.reduceMul, Int32.reduceSub, az_ne10, az_ne20, az_ne30, Nat.zero_le]
    refine do_o (n := 21) (by decide) ht hS H fun I1 z1 w1 hS1 hc1 hz1 => ?_
    rw [q2 (by decide) (by decide)] at hS1
    have ev : (fdo 21 (nI p) 0 0 0 s).1 = s 107 p := v0
    rw [ev]
    simp (maxDischargeDepth := 7) only [s97_464, s97_467, s97_468, s97_471, s97_472, s97_474, s97_475, az_ex, az_bk0, az_bk1, az_bkx, az_cat0, az_cati, az_catr, az_catl, az_vi, az_vr, az_bo0, az_bo1, az_boi, true_and, and_true, if_true, if_false, ne_eq, not_true_eq_false, not_false_eq_true, List.set_cons_zero, List.set_cons_succ, Nat.reduceAdd, Nat.reduceLeDiff, Nat.reduceEqDiff, ↓reduceIte, reduceCtorEq, Nat.reduceSub, Nat.reduceMul, Int32.reduceLT, Int32.reduceLE, Int32.reduceAdd, Int32.reduceMul, Int32.reduceSub, az_ne10, az_ne20, az_ne30, Nat.zero_le, az_q0_1, az_q0_2, az_q0_3, az_q0_4, az_q0_5, az_q0_6, az_q0_7, az_q0_8, az_q1_0, az_q1_2, az_q1_3, az_q1_4, az_q1_5, az_q1_6, az_q1_7, az_q1_8, az_q2_0, az_q2_1, az_q2_3, az_q2_4, az_q2_5, az_q2_6, az_q2_7, az_q2_8, az_q3_0, az_q3_1, az_q3_2, az_q3_4, az_q3_5, az_q3_6, az_q3_7, az_q3_8, az_q4_0, az_q4_1, az_q4_2, az_q4_3, az_q4_5, az_q4_6, az_q4_7, az_q4_8, az_q5_0, az_q5_1, az_q5_2, az_q5_3, az_q5_4, az_q5_6, az_q5_7, az_q5_8, az_q6_0, az_q6_1, az_q6_2, az_q6_3, az_q6_4, az_q6_5, az_q6_7, az_q6_8, az_q7_0, az_q7_1, az_q7_2, az_q7_3, az_q7_4, az_q7_5, az_q7_6, az_q7_8, az_q8_0, az_q8_1, az_q8_2, az_q8_3, az_q8_4, az_q8_5, az_q8_6, az_q8_7, az_z10, az_z60, az_z100, az_z1000, az_z1001, az_z10000, g107]
    refine kp1 H hp nl 0 I1 0 _ _ _ (by omega) rfl hS1 fun I2 h2 => ?_
    rw [p1]
    simp (maxDischargeDepth := 7) only [s97_502, s97_504, s97_505, s97_507, s97_508, cc63, az_ex, az_bk0, az_bk1, az_bkx, az_cat0, az_cati, az_catr, az_catl, az_vi, az_vr, az_bo0, az_bo1, az_boi, true_and, and_true, if_true, if_false, ne_eq, not_true_eq_false, not_false_eq_true, List.set_cons_zero, List.set_cons_succ, Nat.reduceAdd, Nat.reduceLeDiff, Nat.reduceEqDiff, ↓reduceIte, reduceCtorEq, Nat.reduceSub, Nat.reduceMul, Int32.reduceLT, Int32.reduceLE, Int32.reduceAdd, Int32.reduceMul, Int32.reduceSub, az_ne10, az_ne20, az_ne30, Nat.zero_le, cc63]
    refine Q63 (d := d + 2) h2 H hpa (by decide) fun I3 h3 => ?_
    rw [v2]
    simp (maxDischargeDepth := 7) only [s97_511, s97_514, s97_516, s97_517, s97_519, s97_520, cc63, az_ex, az_bk0, az_bk1, az_bkx, az_cat0, az_cati, az_catr, az_catl, az_vi, az_vr, az_bo0, az_bo1, az_boi, true_and, and_true, if_true, if_false, ne_eq, not_true_eq_false, not_false_eq_true, List.set_cons_zero, List.set_cons_succ, Nat.reduceAdd, Nat.reduceLeDiff, Nat.reduceEqDiff, ↓reduceIte, reduceCtorEq, Nat.reduceSub, Nat.reduceMul, Int32.reduceLT, Int32.reduceLE, Int32.reduceAdd, Int32.reduceMul, Int32.reduceSub, az_ne10, az_ne20, az_ne30, Nat.zero_le, cc63]
    refine Q63 (d := d + 2) h3 H hpa (by decide) fun I4 h4 => ?_
    rw [v1]
    simp (maxDischargeDepth := 7) only [s97_523, s97_526, s97_527, s97_529, s97_530, cc63, az_ex, az_bk0, az_bk1, az_bkx, az_cat0, az_cati, az_catr, az_catl, az_vi, az_vr, az_bo0, az_bo1, az_boi, true_and, and_true, if_true, if_false, ne_eq, not_true_eq_false, not_false_eq_true, List.set_cons_zero, List.set_cons_succ, Nat.reduceAdd, Nat.reduceLeDiff, Nat.reduceEqDiff, ↓reduceIte, reduceCtorEq, Nat.reduceSub, Nat.reduceMul, Int32.reduceLT, Int32.reduceLE, Int32.reduceAdd, Int32.reduceMul, Int32.reduceSub, az_ne10, az_ne20, az_ne30, Nat.zero_le, cc63, p2']
    refine Q63 (d := d + 2) h4 H hpa (by decide) fun I5 h5 => ?_
    rw [v4]
    simp (maxDischargeDepth := 7) only [s97_533, s97_535, s97_537, s97_538, s97_541, s97_542, s97_545, s97_546, s97_547, s97_550, az_ex, az_bk0, az_bk1, az_bkx, az_cat0, az_cati, az_catr, az_catl, az_vi, az_vr, az_bo0, az_bo1, az_boi, true_and, and_true, if_true, if_false, ne_eq, not_true_eq_false, not_false_eq_true, List.set_cons_zero, List.set_cons_succ, Nat.reduceAdd, Nat.reduceLeDiff, Nat.reduceEqDiff, ↓reduceIte, reduceCtorEq, Nat.reduceSub, Nat.reduceMul, Int32.reduceLT, Int32.reduceLE, Int32.reduceAdd, Int32.reduceMul, Int32.reduceSub, az_ne10, az_ne20, az_ne30, Nat.zero_le, hz10, nI_1]
    exact ih (p + 1) I5 z1 w1 _ _ _ _ _ (by omega) h5 fun I6 c6 z6 o6 o7 o8 o9 o10 h6 g1 g2 => hK I6 c6 z6 _ _ _ _ _ h6 (by omega) (by omega)
theorem ordS_len (H : PC s mo nc nl ng np t) (k : Nat) : (ordS s (nI k)).length ≤ 60 := by
  have n9 := H.1.2.2.1.2
  have enl : nlN s = nl := by unfold nlN; rw [H.1.2.2.1.1, nI_clamp (by omega)]
  unfold ordS
  rw [enl, List.length_reverse]
  obtain ⟨o1, o2⟩ := ordR_spec (lt := ltS s) ltb_t ltb_tot (P := pOn (s 29) (s 31) (nI k)) (n := nl)
  exact Nat.le_trans (nd_len (srt_nodup (lt := ltS s) ltb_ir o2) (fun z hz => ((o1 z).mp hz).1)) n9
/-- areKept says yes -/
theorem W97 (ht : t < 600) (H : PC s mo nc nl ng np t) (hF : KF s mo nc nl np) (hS : St2 I s s2) (hK : ∀ I' c' z', St2 I' s s2 → c' ≤ c + 200 → z' ≤ z + 1200 → K (0, some (.int 1), (az_S, I', J, c', z'))) : az_C xs (d + 15) 97 [.ref 0] (az_S, I, J, c, z) K := by
  have n9 := H.1.2.2.1.2
  have n6 := H.1.2.1.2
  have n15 := H.1.2.2.2.2.2
  simp (maxDischargeDepth := 7) only [C97, s97_0, s97_1, s97_2, s97_3, az_ex, az_bk0, az_bk1, az_bkx, az_cat0, az_cati, az_catr, az_catl, az_vi, az_vr, az_bo0, az_bo1, az_boi, true_and, and_true, if_true, if_false, ne_eq, not_true_eq_false, not_false_eq_true, List.set_cons_zero, List.set_cons_succ, Nat.reduceAdd, Nat.reduceLeDiff, Nat.reduceEqDiff, ↓reduceIte, reduceCtorEq, Nat.reduceSub, Nat.reduceMul, Int32.reduceLT, Int32.reduceLE, Int32.reduceAdd, Int32.reduceMul, Int32.reduceSub, az_ne10, az_ne20, az_ne30, Nat.zero_le]
  refine kl1 ht H nl 0 I c z (by omega) hS fun I1 c1 z1 h1 g1 g2 => ?_
  simp (maxDischargeDepth := 7) only [s97_23, s97_24, s97_25, s97_26, az_ex, az_bk0, az_bk1, az_bkx, az_cat0, az_cati, az_catr, az_catl, az_vi, az_vr, az_bo0, az_bo1, az_boi, true_and, and_true, if_true, if_false, ne_eq, not_true_eq_false, not_false_eq_true, List.set_cons_zero, List.set_cons_succ, Nat.reduceAdd, Nat.reduceLeDiff, Nat.reduceEqDiff, ↓reduceIte, reduceCtorEq, Nat.reduceSub, Nat.reduceMul, Int32.reduceLT, Int32.reduceLE, Int32.reduceAdd, Int32.reduceMul, Int32.reduceSub, az_ne10, az_ne20, az_ne30, Nat.zero_le]
  refine kl2l H hF h1 fun I2 o5 o6 h2 => ?_
  simp (maxDischargeDepth := 7) only [s97_206, s97_207, s97_209, s97_210, az_ex, az_bk0, az_bk1, az_bkx, az_cat0, az_cati, az_catr, az_catl, az_vi, az_vr, az_bo0, az_bo1, az_boi, true_and, and_true, if_true, if_false, ne_eq, not_true_eq_false, not_false_eq_true, List.set_cons_zero, List.set_cons_succ, Nat.reduceAdd, Nat.reduceLeDiff, Nat.reduceEqDiff, ↓reduceIte, reduceCtorEq, Nat.reduceSub, Nat.reduceMul, Int32.reduceLT, Int32.reduceLE, Int32.reduceAdd, Int32.reduceMul, Int32.reduceSub, az_ne10, az_ne20, az_ne30, Nat.zero_le]
  refine kc2 ht H hF (fun k _ => ordS_len H k) nc 0 I2 c1 z1 0 _ _ _ _ _ (by omega) rfl h2 fun I3 c3 z3 o6 o7 o8 o9 o10 h3 g3 g4 => ?_
  simp (maxDischargeDepth := 7) only [s97_450, s97_451, az_ex, az_bk0, az_bk1, az_bkx, az_cat0, az_cati, az_catr, az_catl, az_vi, az_vr, az_bo0, az_bo1, az_boi, true_and, and_true, if_true, if_false, ne_eq, not_true_eq_false, not_false_eq_true, List.set_cons_zero, List.set_cons_succ, Nat.reduceAdd, Nat.reduceLeDiff, Nat.reduceEqDiff, ↓reduceIte, reduceCtorEq, Nat.reduceSub, Nat.reduceMul, Int32.reduceLT, Int32.reduceLE, Int32.reduceAdd, Int32.reduceMul, Int32.reduceSub, az_ne10, az_ne20, az_ne30, Nat.zero_le]
  refine kp2 ht H hF np 0 I3 c3 z3 _ _ _ _ _ (by omega) h3 fun I4 c4 z4 o6 o7 o8 o9 o10 h4 g5 g6 => ?_
  rw [hF.2.2.2]
  simp (maxDischargeDepth := 7) only [s97_553, s97_554, s97_557, s97_559, s97_560, s97_563, s97_564, s97_567, s97_568, az_ex, az_bk0, az_bk1, az_bkx, az_cat0, az_cati, az_catr, az_catl, az_vi, az_vr, az_bo0, az_bo1, az_boi, true_and, and_true, if_true, if_false, ne_eq, not_true_eq_false, not_false_eq_true, List.set_cons_zero, List.set_cons_succ, Nat.reduceAdd, Nat.reduceLeDiff, Nat.reduceEqDiff, ↓reduceIte, reduceCtorEq, Nat.reduceSub, Nat.reduceMul, Int32.reduceLT, Int32.reduceLE, Int32.reduceAdd, Int32.reduceMul, Int32.reduceSub, az_ne10, az_ne20, az_ne30, Nat.zero_le, az_q0_1, az_q0_2, az_q0_3, az_q0_4, az_q0_5, az_q0_6, az_q0_7, az_q0_8, az_q1_0, az_q1_2, az_q1_3, az_q1_4, az_q1_5, az_q1_6, az_q1_7, az_q1_8, az_q2_0, az_q2_1, az_q2_3, az_q2_4, az_q2_5, az_q2_6, az_q2_7, az_q2_8, az_q3_0, az_q3_1, az_q3_2, az_q3_4, az_q3_5, az_q3_6, az_q3_7, az_q3_8, az_q4_0, az_q4_1, az_q4_2, az_q4_3, az_q4_5, az_q4_6, az_q4_7, az_q4_8, az_q5_0, az_q5_1, az_q5_2, az_q5_3, az_q5_4, az_q5_6, az_q5_7, az_q5_8, az_q6_0, az_q6_1, az_q6_2, az_q6_3, az_q6_4, az_q6_5, az_q6_7, az_q6_8, az_q7_0, az_q7_1, az_q7_2, az_q7_3, az_q7_4, az_q7_5, az_q7_6, az_q7_8, az_q8_0, az_q8_1, az_q8_2, az_q8_3, az_q8_4, az_q8_5, az_q8_6, az_q8_7, az_z10, az_z60, az_z100, az_z1000, az_z1001, az_z10000]
  exact hK I4 c4 z4 h4 (by omega) (by omega)
end
