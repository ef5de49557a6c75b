/-! the law's loop, the goal -/
theorem init_sim {I : Nat → Nat → Int32} (h : I 2 = lnd 24 ∧ I 3 = lnd 2 ∧ I 4 = lnd 50 ∧ I 153 = lnd 24 ∧ I 154 = lnd 2 ∧ I 155 = lnd 50) (hz : ∀ a, a ∉ [2, 3, 4, 153, 154, 155] → I a = fun _ => 0) : az_Sim I 0 0 0 0 0 0 := by
  obtain ⟨a2, a3, a4, a153, a154, a155⟩ := h
  refine ⟨⟨a153.trans a2.symm, a154.trans a3.symm, a155.trans a4.symm, (hz 156 (by decide)).trans (hz 6 (by decide)).symm, (hz 157 (by decide)).trans (hz 7 (by decide)).symm, (hz 184 (by decide)).trans (hz 8 (by decide)).symm, (hz 185 (by decide)).trans (hz 9 (by decide)).symm, (hz 186 (by decide)).trans (hz 10 (by decide)).symm, (hz 187 (by decide)).trans (hz 11 (by decide)).symm, (hz 188 (by decide)).trans (hz 12 (by decide)).symm, (hz 189 (by decide)).trans (hz 13 (by decide)).symm, (hz 158 (by decide)).trans (hz 19 (by decide)).symm, (hz 159 (by decide)).trans (hz 20 (by decide)).symm, (hz 160 (by decide)).trans (hz 21 (by decide)).symm, (hz 161 (by decide)).trans (hz 22 (by decide)).symm, (hz 162 (by decide)).trans (hz 23 (by decide)).symm, (hz 163 (by decide)).trans (hz 24 (by decide)).symm, (hz 164 (by decide)).trans (hz 25 (by decide)).symm, (hz 165 (by decide)).trans (hz 26 (by decide)).symm, (hz 166 (by decide)).trans (hz 27 (by decide)).symm, (hz 167 (by decide)).trans (hz 29 (by decide)).symm, (hz 168 (by decide)).trans (hz 30 (by decide)).symm, (hz 169 (by decide)).trans (hz 31 (by decide)).symm, (hz 170 (by decide)).trans (hz 32 (by decide)).symm, (hz 172 (by decide)).trans (hz 37 (by decide)).symm, (hz 173 (by decide)).trans (hz 38 (by decide)).symm, (hz 174 (by decide)).trans (hz 39 (by decide)).symm, (hz 177 (by decide)).trans (hz 107 (by decide)).symm, (hz 178 (by decide)).trans (hz 110 (by decide)).symm, (hz 179 (by decide)).trans (hz 108 (by decide)).symm, (hz 180 (by decide)).trans (hz 109 (by decide)).symm⟩, ?_, ?_, ?_, ?_, ?_, ?_, ?_, ?_, ?_, ?_, ?_, ?_⟩
  · unfold az_cnt
    rw [hz 0 (by decide), hz 152 (by decide), hz 18 (by decide), hz 28 (by decide), hz 36 (by decide), hz 106 (by decide)]
    exact ⟨⟨rfl, rfl, by decide⟩, ⟨rfl, rfl, by decide⟩, ⟨rfl, rfl, by decide⟩, ⟨rfl, rfl, by decide⟩, ⟨rfl, rfl, by decide⟩⟩
  · unfold az_eend
    rw [hz 171 (by decide), hz 33 (by decide)]
    funext j
    show (0 : Int32) = az_nv 0
    decide
  · intro l hl c hc
    rw [hz 190 (by decide), hz (15 + l) (by simp; omega)]
  · intro p hp j hj
    rw [hz 183 (by decide), hz (112 + p) (by simp; omega)]
  · intro a ha
    refine ⟨0, by decide, by rw [hz 40 (by decide)]; rfl, by simp, fun b hb => ?_⟩
    rw [hz 175 (by decide)]
    simp
  · intro l hl
    rw [a2, a3]
    unfold lnd
    rw [if_pos hl, if_pos hl]
    exact ⟨Or.inr (by decide), by decide⟩
  · intro c hc
    rw [hz 6 (by decide)]
    exact Or.inl rfl
  · refine ⟨fun i hi => absurd hi (by omega), fun i hi => ?_⟩
    rw [hz 24 (by decide), hz 26 (by decide), hz 27 (by decide)]
    exact ⟨rfl, rfl, rfl⟩
  · intro j hj
    exact absurd hj (by omega)
  · intro a ha
    exact absurd ha (by omega)
  · intro p hp
    exact absurd hp (by omega)
  · intro p hp hp4
    rw [hz 181 (by decide), hz 183 (by decide)]
    exact ⟨rfl, fun j _ => rfl⟩
theorem and31 (x : Int32) : ∃ q, q < 32 ∧ x &&& 31 = nI q := by
  obtain ⟨n, hn, rfl⟩ := bw_of x
  refine ⟨n % 32, Nat.mod_lt _ (by decide), ?_⟩
  rw [show (31 : Int32) = nI 31 from rfl, bw_and, show (31 : Nat) = 2 ^ 5 - 1 from rfl, Nat.and_two_pow_sub_one_eq_mod]
section
variable {n : Nat} {ys : Nat → Int32}
def fin1 (o : az_O) : Prop := o.1 = 0 ∧ o.2.1 = some (.int 1) ∧ o.2.2.2.2.2.1 ≤ 601024 ∧ o.2.2.2.2.2.2 ≤ 7293034
theorem law_end {i c z : Nat} {I : Nat → Nat → Int32} {J : Nat → Nat → Int64} {o5 o6 : Option Value} (hn : n ≤ 2560) (hi : i ≤ 2560) (hx : n < i + 5) (hc : c ≤ 601024) (hz : z ≤ 7293034) : az_W (n, ys) 30 171 23 (az_LL i o5 o6) [] (az_S, I, J, c, z) fin1 := by
  have e1 : (nI n - 5 < nI i) = True := by
    apply eq_true
    rw [Int32.lt_iff_toInt_lt, fb_subI (by rw [nI_toInt (by omega), show (5 : Int32).toInt = 5 from rfl]; omega) (by rw [nI_toInt (by omega), show (5 : Int32).toInt = 5 from rfl]; omega), nI_toInt (by omega), nI_toInt (by omega), show (5 : Int32).toInt = 5 from rfl]
    omega
  have e9 : Int32.ofNat n = nI n := rfl
  unfold az_LL
  simp (maxDischargeDepth := 7) only [s171_23, s171_25, s171_26, s171_27, s171_28, s171_29, s171_2064, s171_2065, az_ex, az_bk0, az_bk1, az_bkx, az_cat0, az_cati, az_catr, az_catl, az_vi, az_vr, az_bo0, az_bo1, az_boi, true_and, and_true, if_true, if_false, ne_eq, not_true_eq_false, not_false_eq_true, List.set_cons_zero, List.set_cons_succ, Nat.reduceAdd, Nat.reduceLeDiff, Nat.reduceEqDiff, ↓reduceIte, reduceCtorEq, Nat.reduceSub, Nat.reduceMul, Int32.reduceLT, Int32.reduceLE, Int32.reduceAdd, Int32.reduceMul, Int32.reduceSub, az_ne10, az_ne20, az_ne30, Nat.zero_le, e9, e1]
  exact ⟨rfl, rfl, hc, hz⟩
theorem law_step {i c z : Nat} {I : Nat → Nat → Int32} {J : Nat → Nat → Int64} {o5 o6 : Option Value} {K : az_O → Prop} (hn : n ≤ 2560) (hx : i + 5 ≤ n) : ∃ q, q < 32 ∧ (az_W (n, ys) 30 171 23 (az_LL i o5 o6) [] (az_S, I, J, c, z) K ↔ az_W (n, ys) 30 171 ([164, 256, 324, 404, 500, 596, 699, 755, 811, 867, 935, 1003, 1071, 1139, 1207, 1282, 1345, 1389, 1457, 1470, 1538, 1606, 1674, 1742, 1810, 1878, 1946, 2002].getD q 2058) (az_LL i o5 o6) [] (az_S, I, J, c, z) K) := by
  obtain ⟨q, hq, hq2⟩ := and31 (ys i)
  refine ⟨q, hq, ?_⟩
  have e1 : (nI n - 5 < nI i) = False := by
    apply eq_false
    rw [Int32.lt_iff_toInt_lt, fb_subI (by rw [nI_toInt (by omega), show (5 : Int32).toInt = 5 from rfl]; omega) (by rw [nI_toInt (by omega), show (5 : Int32).toInt = 5 from rfl]; omega), nI_toInt (by omega), nI_toInt (by omega), show (5 : Int32).toInt = 5 from rfl]
    omega
  have e9 : Int32.ofNat n = nI n := rfl
  have f1 : az_in (nI i) n = true := by rw [az_in_nI (by omega)]; simp; omega
  have e2 : az_tsf [164, 256, 324, 404, 500, 596, 699, 755, 811, 867, 935, 1003, 1071, 1139, 1207, 1282, 1345, 1389, 1457, 1470, 1538, 1606, 1674, 1742, 1810, 1878, 1946, 2002] 2058 (nI q) = [164, 256, 324, 404, 500, 596, 699, 755, 811, 867, 935, 1003, 1071, 1139, 1207, 1282, 1345, 1389, 1457, 1470, 1538, 1606, 1674, 1742, 1810, 1878, 1946, 2002].getD q 2058 := by
    by_cases h : q < 28
    · exact az_tsfn (by simpa using h) (by omega)
    · rw [az_tsfd (by simp; omega) (by omega)]
      rw [List.getD_eq_getElem?_getD, List.getElem?_eq_none (by simp; omega)]
      rfl
  unfold az_LL
  simp (maxDischargeDepth := 7) only [s171_23, s171_25, s171_26, s171_27, s171_28, s171_29, s171_32, s171_33, s171_35, s171_36, s171_38, s171_39, az_ex, az_bk0, az_bk1, az_bkx, az_cat0, az_cati, az_catr, az_catl, az_vi, az_vr, az_bo0, az_bo1, az_boi, true_and, and_true, if_true, if_false, ne_eq, not_true_eq_false, not_false_eq_true, List.set_cons_zero, List.set_cons_succ, Nat.reduceAdd, Nat.reduceLeDiff, Nat.reduceEqDiff, ↓reduceIte, reduceCtorEq, Nat.reduceSub, Nat.reduceMul, Int32.reduceLT, Int32.reduceLE, Int32.reduceAdd, Int32.reduceMul, Int32.reduceSub, az_ne10, az_ne20, az_ne30, Nat.zero_le, e9, e1, f1, nI_clamp (show i < 2 ^ 31 by omega), hq2, e2]
theorem law_next {i t c z : Nat} {K : az_O → Prop} (hn : n ≤ 2560) (hi : i + 5 ≤ n) (h : ∀ (o5 o6 : Option Value) (I : Nat → Nat → Int32) (J : Nat → Nat → Int64) (c' z' mo nc nl ng np : Nat), az_Sim I mo nc nl ng np (t + 1) → c' ≤ c + 1 → z' ≤ z + 6 → az_W (n, ys) 30 171 23 (az_LL (i + 5) o5 o6) [] (az_S, I, J, c', z') K) : az_go (n, ys) i t c z K := by
  intro o5 o6 I J c' z' mo nc nl ng np H hc hz
  have e1 : nI i + 5 = nI (i + 5) := bz_add i 5
  have h1 := h o5 o6 I J c' z' mo nc nl ng np H hc hz
  unfold az_LL at h1 ⊢
  simp (maxDischargeDepth := 7) only [s171_2058, s171_2061, az_ex, az_bk0, az_bk1, az_bkx, az_cat0, az_cati, az_catr, az_catl, az_vi, az_vr, az_bo0, az_bo1, az_boi, true_and, and_true, if_true, if_false, ne_eq, not_true_eq_false, not_false_eq_true, List.set_cons_zero, List.set_cons_succ, Nat.reduceAdd, Nat.reduceLeDiff, Nat.reduceEqDiff, ↓reduceIte, reduceCtorEq, Nat.reduceSub, Nat.reduceMul, Int32.reduceLT, Int32.reduceLE, Int32.reduceAdd, Int32.reduceMul, Int32.reduceSub, az_ne10, az_ne20, az_ne30, Nat.zero_le, e1]
  exact h1
theorem law_loop (hn : n ≤ 2560) : ∀ (m t i c z : Nat) (I : Nat → Nat → Int32) (J : Nat → Nat → Int64) (o5 o6 : Option Value) (mo nc nl ng np : Nat), t + m = 520 → i = 5 * t → i ≤ n → az_Sim I mo nc nl ng np t → c ≤ 192 + t → z ≤ 74997 + 6 * t → az_W (n, ys) 30 171 23 (az_LL i o5 o6) [] (az_S, I, J, c, z) fin1 := by
  intro m
  induction m with
  | zero =>
    intro t i c z I J o5 o6 mo nc nl ng np ht hi hin H hc hz
    omega
  | succ m ih =>
    intro t i c z I J o5 o6 mo nc nl ng np ht hi hin H hc hz
    by_cases hx : n < i + 5
    · by_cases hi2 : i ≤ 2560
      · exact law_end hn hi2 hx (by omega) (by omega)
      · exfalso
        omega
    · have hx2 : i + 5 ≤ n := by omega
      obtain ⟨q, hq, hstep⟩ := law_step (n := n) (ys := ys) (i := i) (c := c) (z := z) (I := I) (J := J) (o5 := o5) (o6 := o6) (K := fin1) hn hx2
      refine hstep.mpr ?_
      have hgo : az_go (n, ys) i t c z fin1 := law_next hn hx2 fun o5 o6 I J c' z' mo nc nl ng np H2 hc2 hz2 => ih (t + 1) (i + 5) c' z' I J o5 o6 mo nc nl ng np (by omega) (by omega) (by omega) H2 (by omega) (by omega)
      have hs : az_sc (n, ys) i := by
        have g0 : ∀ k, k < 5 → az_in (nI (i + k)) n = true := fun k hk => by rw [az_in_nI (by omega)]; simp; omega
        refine ⟨g0 0 (by decide), ?_, ?_, ?_, ?_⟩
        · show az_in (nI i + 1) n = true
          rw [nI_1]; exact g0 1 (by decide)
        · show az_in (nI i + 2) n = true
          rw [show nI i + 2 = nI (i + 2) from bz_add i 2]; exact g0 2 (by decide)
        · show az_in (nI i + 3) n = true
          rw [show nI i + 3 = nI (i + 3) from bz_add i 3]; exact g0 3 (by decide)
        · show az_in (nI i + 4) n = true
          rw [show nI i + 4 = nI (i + 4) from bz_add i 4]; exact g0 4 (by decide)
      match q, hq with
      | 0, _ => exact op0 hs H hgo
      | 1, _ => exact op1 hs H hgo
      | 2, _ => exact op2 hs H hgo
      | 3, _ => exact op3 hs H hgo
      | 4, _ => exact op4 hs H hgo
      | 5, _ => exact op5 hs H hgo
      | 6, _ => exact op6 hs H hgo
      | 7, _ => exact op7 hs H hgo
      | 8, _ => exact op8 hs H hgo
      | 9, _ => exact op9 (by omega) hs H hgo
      | 10, _ => exact op10 hs H hgo
      | 11, _ => exact op11 (by omega) hs H hgo
      | 12, _ => exact op12 hs H hgo
      | 13, _ => exact op13 hs H hgo
      | 14, _ => exact op14 hs H hgo
      | 15, _ => exact op15 hs H hgo
      | 16, _ => exact op16 (by omega) hs H hgo
      | 17, _ => exact op17 (by omega) hs H hgo
      | 18, _ => exact op18 hs H hgo
      | 19, _ => exact op19 hs H hgo
      | 20, _ => exact op20 hs H hgo
      | 21, _ => exact op21 hs H hgo
      | 22, _ => exact op22 hs H hgo
      | 23, _ => exact op23 hs H hgo
      | 24, _ => exact op24 hs H hgo
      | 25, _ => exact op25 hs H hgo
      | 26, _ => exact op26 hs H hgo
      | 27, _ => exact op27 hs H hgo
      | q + 28, hq =>
        have e : [164, 256, 324, 404, 500, 596, 699, 755, 811, 867, 935, 1003, 1071, 1139, 1207, 1282, 1345, 1389, 1457, 1470, 1538, 1606, 1674, 1742, 1810, 1878, 1946, 2002].getD (q + 28) 2058 = 2058 := by
          rw [List.getD_eq_getElem?_getD, List.getElem?_eq_none (by simp)]
          rfl
        rw [e]
        exact hgo o5 o6 I J c z mo nc nl ng np (az_Sim_t H) (by omega) (by omega)
end
theorem az_goal_ok : az_goal := by
  intro n ys hn
  have h : az_W (n, ys) 30 171 0 az_L0 [] az_G0 fin1 := init1 fun I h1 h2 => law_loop (n := n) (ys := ys) hn 520 0 0 192 74997 I zJ none none 0 0 0 0 0 (by omega) (by omega) (by omega) (init_sim h1 h2) (by omega) (by omega)
  obtain ⟨f, o, h1, h2⟩ := h
  exact ⟨f, o, h1, h2⟩
