/-! a chain dies -/
theorem az_loopB {α : Type} {W Inv : Nat → α → Prop} {h : Nat → α → α} {n : Nat} (hI : ∀ j s, j < n → Inv j s → Inv (j + 1) (h j s)) (step : ∀ j s, j < n → Inv j s → W (j + 1) (h j s) → W j s) : ∀ m j s, j + m = n → Inv j s → W n (fd h m j s) → W j s := by
  intro m
  induction m with
  | zero =>
    intro j s hj _ hw
    rw [show j = n by omega]
    exact hw
  | succ m ih =>
    intro j s hj hi hw
    exact step j s (by omega) hi (ih (j + 1) (h j s) (by omega) (hI j s (by omega) hi) hw)
theorem fd_inv {α : Type} {Inv : Nat → α → Prop} {h : Nat → α → α} {n : Nat} (hI : ∀ j s, j < n → Inv j s → Inv (j + 1) (h j s)) : ∀ m j s, j + m = n → Inv j s → Inv n (fd h m j s) := by
  intro m
  induction m with
  | zero =>
    intro j s hj hi
    rw [show n = j by omega]
    exact hi
  | succ m ih =>
    intro j s hj hi
    exact ih (j + 1) (h j s) (by omega) (hI j s (by omega) hi)
theorem fd_split {α : Type} {h : Nat → α → α} : ∀ a b j s, fd h (a + b) j s = fd h b (j + a) (fd h a j s) := by
  intro a
  induction a with
  | zero => intro b j s; rw [Nat.zero_add]; rfl
  | succ a ih =>
    intro b j s
    rw [show a + 1 + b = (a + b) + 1 by omega]
    show fd h (a + b) (j + 1) (h j s) = fd h b (j + (a + 1)) (fd h a (j + 1) (h j s))
    rw [ih, show j + 1 + a = j + (a + 1) by omega]
theorem az_W_cg {xs : az_X} {d k pc : Nat} {L L' : az_Ls} {st : List Value} {S : List az_Shp} {I I' : Nat → Nat → Int32} {J : Nat → Nat → Int64} {c z : Nat} {K : az_O → Prop} (hL : L = L') (hI : I = I') (h : az_W xs d k pc L' st (S, I', J, c, z) K) : az_W xs d k pc L st (S, I, J, c, z) K := by
  rw [hL, hI]
  exact h
theorem az_K_cg {S : List az_Shp} {I I' : Nat → Nat → Int32} {J : Nat → Nat → Int64} {c z n : Nat} {v v' : Option Value} {K : az_O → Prop} (hv : v = v') (hI : I = I') (h : K (n, v', (S, I', J, c, z))) : K (n, v, (S, I, J, c, z)) := by
  rw [hv, hI]
  exact h
theorem fclm_sum {ch f o g : Nat → Int32} {x og : Int32} {B : Nat} : ∀ (n j : Nat) (s : Int32), (∀ i, i < j + n → 0 ≤ (g i).toInt ∧ (g i).toInt ≤ B) → 0 ≤ s.toInt → s.toInt + (n : Int) * (B : Int) < 2 ^ 31 → s.toInt ≤ (fd (fclm ch f o g x og) n j s).toInt ∧ (fd (fclm ch f o g x og) n j s).toInt ≤ s.toInt + (n : Int) * (B : Int) := by
  intro n
  induction n with
  | zero => intro j s _ h1 h2; simp [fd]
  | succ n ih =>
    intro j s h h1 h2
    have hj := h j (by omega)
    have e : ((n + 1 : Nat) : Int) * (B : Int) = (n : Int) * (B : Int) + (B : Int) := by rw [Int.natCast_add, Int.add_mul]; simp
    rw [e] at h2 ⊢
    have hnB : (0 : Int) ≤ (n : Int) * (B : Int) := Int.mul_nonneg (by omega) (by omega)
    have ea : (s + g j).toInt = s.toInt + (g j).toInt := by
      rw [Int32.toInt_add]
      exact Int.bmod_eq_of_le (by omega) (by omega)
    simp only [fd]
    unfold fclm
    split
    · split
      · have := ih (j + 1) (s + g j) (fun i hi => h i (by omega)) (by omega) (by omega)
        rw [ea] at this
        exact ⟨by have := this.1; unfold fclm at this; omega, by have := this.2; unfold fclm at this; omega⟩
      · have := ih (j + 1) s (fun i hi => h i (by omega)) h1 (by omega)
        exact ⟨by have := this.1; unfold fclm at this; omega, by have := this.2; unfold fclm at this; omega⟩
    · have := ih (j + 1) s (fun i hi => h i (by omega)) h1 (by omega)
      exact ⟨by have := this.1; unfold fclm at this; omega, by have := this.2; unfold fclm at this; omega⟩
theorem fclm_pos {ch f o g : Nat → Int32} {x og : Int32} {B n j : Nat} (h : ∀ i, i < n → 0 ≤ (g i).toInt ∧ (g i).toInt ≤ B) (hb : n * B < 2 ^ 31) (hj : j < n) (h1 : ch (f j).toNatClampNeg = x) (h2 : o j = og) (h3 : 0 < g j) : 0 < fd (fclm ch f o g x og) n 0 0 := by
  have h3' : 0 < (g j).toInt := Int32.lt_iff_toInt_lt.mp h3
  rw [show n = j + (n - j) by omega, fd_split, show n - j = (n - j - 1) + 1 by omega]
  have q1 : (j : Int) * (B : Int) + B ≤ (n : Int) * (B : Int) := by
    have h5 : (j + 1) * B ≤ n * B := Nat.mul_le_mul_right B (by omega)
    rw [Nat.add_mul, Nat.one_mul] at h5
    exact_mod_cast h5
  have q2 : (n : Int) * (B : Int) < 2 ^ 31 := by exact_mod_cast hb
  have e0 : (0 : Int32).toInt = 0 := rfl
  obtain ⟨b1, b2⟩ := fclm_sum (ch := ch) (f := f) (o := o) (g := g) (x := x) (og := og) (B := B) j 0 0 (fun i hi => h i (by omega)) (by simp) (by rw [e0]; have := h j hj; omega)
  rw [e0] at b1 b2
  generalize hs : fd (fclm ch f o g x og) j 0 0 = s at b1 b2
  have hgj := h j hj
  have ea : (s + g j).toInt = s.toInt + (g j).toInt := by
    rw [Int32.toInt_add]
    exact Int.bmod_eq_of_le (by omega) (by omega)
  show 0 < fd (fclm ch f o g x og) (n - j - 1) (0 + j + 1) (fclm ch f o g x og (0 + j) s)
  have es : fclm ch f o g x og (0 + j) s = s + g j := by
    rw [Nat.zero_add]
    unfold fclm
    rw [if_pos h1, if_pos h2]
  rw [es, Int32.lt_iff_toInt_lt, e0]
  have q3 : ((n - j - 1 : Nat) : Int) * (B : Int) + ((j : Int) * (B : Int) + B) = (n : Int) * (B : Int) := by
    have h6 : (n - j - 1) * B + (j * B + B) = n * B := by
      rw [show j * B + B = (j + 1) * B by rw [Nat.add_mul, Nat.one_mul], ← Nat.add_mul]
      congr 1
      omega
    exact_mod_cast h6
  obtain ⟨d1, d2⟩ := fclm_sum (ch := ch) (f := f) (o := o) (g := g) (x := x) (og := og) (B := B) (n - j - 1) (0 + j + 1) (s + g j) (fun i hi => h i (by omega)) (by omega) (by omega)
  omega
def fpt (est cl g : Int32) : Int32 := if cl ≤ est then g else if 0 < cl then est * g / cl else g
def fdp (ch cd o : Nat → Int32) (est cl x og : Int32) (j : Nat) (s : (Nat → Int32) × Int32 × Int32) : (Nat → Int32) × Int32 × Int32 :=
  if ch (cd j).toNatClampNeg = x then (if o j = og then (upd s.1 j 0, s.2.1 + (s.1 j - fpt est cl (s.1 j)), s.2.2 + fpt est cl (s.1 j)) else s) else s
theorem fpt0 {est cl : Int32} : fpt est cl 0 = 0 := by
  unfold fpt
  split
  · rfl
  · split
    · rw [Int32.mul_zero, Int32.zero_div]
    · rfl
/-- the class's cells of a dying chain -/
def dS (I : Nat → Nat → Int32) (k : Nat) (g : Nat → Int32) (v w : Int32) : Nat → Nat → Int32 := az_up (az_up (az_set I 31 g) 13 k v) 12 k w
theorem dSe {I : Nat → Nat → Int32} {k b : Nat} {g : Nat → Int32} {v w : Int32} : dS I k g v w b = if b = 12 then upd (I 12) k w else if b = 13 then upd (I 13) k v else if b = 31 then g else I b := by
  unfold dS
  simp only [az_upe, az_sete]
  by_cases h : b = 12
  · simp [h]
  · by_cases h2 : b = 13
    · simp [h2]
    · simp [h, h2]
theorem dS_0 {I : Nat → Nat → Int32} {k : Nat} : dS I k (I 31) (I 13 k) (I 12 k) = I := by
  funext b
  rw [dSe]
  by_cases h : b = 12
  · subst h; simp [upd_same]
  · by_cases h2 : b = 13
    · subst h2; simp [upd_same]
    · by_cases h3 : b = 31
      · subst h3; simp
      · simp [h, h2, h3]
section
variable {xs : az_X} {d : Nat} {nl c z : Nat} {I : Nat → Nat → Int32} {J : Nat → Nat → Int64} {K : az_O → Prop}
theorem c83 {x og est v w cl : Int32} {g : Nat → Int32} {s : (Nat → Int32) × Int32 × Int32} (hx : az_in x 4 = true) (hn : nl ≤ 60) (h7 : I 28 7 = nI nl) (hv : ∀ j, j < nl → az_in (I 29 j) 12 = true) (hcl : cl = fd (fclm (I 19) (I 29) (I 30) g x og) nl 0 0) (hs : s = fd (fdp (I 19) (I 29) (I 30) est cl x og) nl 0 (g, v, 0)) (hK : K (0, some (.int s.2.2), (az_S, dS I x.toNatClampNeg s.1 s.2.1 (w + s.2.2), J, c, z))) : az_C xs (d + 3) 83 [.ref 0, .int x, .int og, .int est] (az_S, dS I x.toNatClampNeg g v w, J, c, z) K := by
  have q1 : (dS I x.toNatClampNeg g v w) 28 7 = nI nl := by rw [dSe]; simp [h7]
  have q2 : ∀ j, j < nl → az_in ((dS I x.toNatClampNeg g v w) 29 j) 12 = true := by rw [dSe]; simpa using hv
  have q3 : fd (fclm (dS I x.toNatClampNeg g v w 19) (dS I x.toNatClampNeg g v w 29) (dS I x.toNatClampNeg g v w 30) (dS I x.toNatClampNeg g v w 31) x og) nl 0 0 = cl := by
    rw [hcl]
    simp [dSe]
  simp (maxDischargeDepth := 7) only [C83, th83, s83_0, s83_1, s83_2, s83_3, s83_6, s83_8, s83_9, s83_11, s83_12, s83_16, s83_17, s83_20, s83_23, s83_26, s83_27, s83_29, s83_30, s83_33, s83_36, s83_37, s83_40, s83_43, s83_45, s83_46, s83_47, s83_50, s83_51, s83_54, s83_57, s83_59, s83_60, s83_62, s83_63, s83_65, s83_68, s83_70, s83_73, s83_75, s83_78, s83_79, s83_81, s83_82, s83_84, s83_85, s83_87, s83_88, s83_91, s83_94, s83_96, s83_97, s83_98, s83_99, s83_102, s83_105, s83_106, s83_107, s83_108, s83_110, s83_112, s83_113, s83_114, s83_115, s83_117, s83_119, s83_120, s83_122, s83_125, s83_128, s83_129, s83_132, s83_135, s83_136, s83_137, s83_138, s83_140, s83_141, s83_142, s83_144, cc84, g0_3, g28_7, cc76, g28_1, A30, g28_2, A31, g0_1, g5_7, A13, g5_6, A12, c84 hn q1 q2, q3, az_ex, az_bk0, az_bk1, az_bkx, az_cat0, az_cati, az_catr, az_catl, az_vi, az_vr, az_bo0, az_bo1, az_boi, true_and, and_true, if_true, if_false, ne_eq, not_true_eq_false, not_false_eq_true, List.set_cons_zero, List.set_cons_succ, Nat.reduceAdd, Nat.reduceLeDiff, Nat.reduceEqDiff, ↓reduceIte, reduceCtorEq, Nat.reduceSub, Nat.reduceMul, Int32.reduceLT, Int32.reduceLE, Int32.reduceAdd, Int32.reduceMul, Int32.reduceSub, az_ne10, az_ne20, az_ne30, Nat.zero_le]
  have key := az_loopB (n := nl) (h := fdp (I 19) (I 29) (I 30) est cl x og) (Inv := fun _ _ => True) (W := fun j s => ∀ o7 o8, az_W xs (d + 2) 83 14 [some (.ref 0), some (.int x), some (.int og), some (.int est), some (.int cl), some (.int s.2.2), some (.int (nI j)), o7, o8] [] (az_S, dS I x.toNatClampNeg s.1 s.2.1 w, J, c, z) K) (fun _ _ _ _ => trivial) ?_ nl 0 (g, v, 0) (Nat.zero_add _) trivial ?_
  · exact key none none
  · intro j s hj _ hw o7 o8
    have f1 : az_in (nI j) 60 = true := by rw [az_in_nI (by omega)]; simp; omega
    have f2 : (nI nl ≤ nI j) = False := by rw [bz_le (by omega) (by omega)]; simp; omega
    have f4 := hv j hj
    refine s83_14.mpr ?_
    unfold fdp at hw
    by_cases hh : I 19 (I 29 j).toNatClampNeg = x
    · by_cases hg : I 30 j = og
      · simp only [hh, hg, if_true] at hw
        unfold fpt at hw
        by_cases h1 : cl ≤ est
        · simp only [h1, if_true] at hw
          simp (maxDischargeDepth := 7) only [C83, th83, s83_0, s83_1, s83_2, s83_3, s83_6, s83_8, s83_9, s83_11, s83_12, s83_16, s83_17, s83_20, s83_23, s83_26, s83_27, s83_29, s83_30, s83_33, s83_36, s83_37, s83_40, s83_43, s83_45, s83_46, s83_47, s83_50, s83_51, s83_54, s83_57, s83_59, s83_60, s83_62, s83_63, s83_65, s83_68, s83_70, s83_73, s83_75, s83_78, s83_79, s83_81, s83_82, s83_84, s83_85, s83_87, s83_88, s83_91, s83_94, s83_96, s83_97, s83_98, s83_99, s83_102, s83_105, s83_106, s83_107, s83_108, s83_110, s83_112, s83_113, s83_114, s83_115, s83_117, s83_119, s83_120, s83_122, s83_125, s83_128, s83_129, s83_132, s83_135, s83_136, s83_137, s83_138, s83_140, s83_141, s83_142, s83_144, cc84, g0_3, g28_7, cc76, g28_1, A30, g28_2, A31, g0_1, g5_7, A13, g5_6, A12, C76, th76, s76_0, s76_1, s76_4, s76_7, s76_8, s76_11, s76_14, s76_15, s76_16, s76_17, s76_18, s76_21, s76_22, s76_25, s76_26, g0_2, g18_0, A19, g0_3, g28_0, A29, az_ex, az_bk0, az_bk1, az_bkx, az_cat0, az_cati, az_catr, az_catl, az_vi, az_vr, az_bo0, az_bo1, az_boi, true_and, and_true, if_true, if_false, ne_eq, not_true_eq_false, not_false_eq_true, List.set_cons_zero, List.set_cons_succ, Nat.reduceAdd, Nat.reduceLeDiff, Nat.reduceEqDiff, ↓reduceIte, reduceCtorEq, Nat.reduceSub, Nat.reduceMul, Int32.reduceLT, Int32.reduceLE, Int32.reduceAdd, Int32.reduceMul, Int32.reduceSub, az_ne10, az_ne20, az_ne30, Nat.zero_le, az_q0_1, az_q0_2, az_q0_3, az_q0_4, az_q0_5, az_q0_6, az_q0_7, az_q0_8, az_q1_0, az_q1_2, az_q1_3, az_q1_4, az_q1_5, az_q1_6, az_q1_7, az_q1_8, az_q2_0, az_q2_1, az_q2_3, az_q2_4, az_q2_5, az_q2_6, az_q2_7, az_q2_8, az_q3_0, az_q3_1, az_q3_2, az_q3_4, az_q3_5, az_q3_6, az_q3_7, az_q3_8, az_q4_0, az_q4_1, az_q4_2, az_q4_3, az_q4_5, az_q4_6, az_q4_7, az_q4_8, az_q5_0, az_q5_1, az_q5_2, az_q5_3, az_q5_4, az_q5_6, az_q5_7, az_q5_8, az_q6_0, az_q6_1, az_q6_2, az_q6_3, az_q6_4, az_q6_5, az_q6_7, az_q6_8, az_q7_0, az_q7_1, az_q7_2, az_q7_3, az_q7_4, az_q7_5, az_q7_6, az_q7_8, az_q8_0, az_q8_1, az_q8_2, az_q8_3, az_q8_4, az_q8_5, az_q8_6, az_q8_7, az_z10, az_z60, az_z100, az_z1000, az_z1001, az_z10000, dSe, h7, f1, f2, f4, hh, hg, h1, hx, nI_1, nI_clamp (show j < 2 ^ 31 by omega), upde]
          refine az_W_cg ?_ ?_ (hw ?_ ?_)
          · rfl
          · funext q; simp only [az_upe, dSe]; by_cases e1 : q = 12 <;> by_cases e2 : q = 13 <;> by_cases e3 : q = 31 <;> simp_all [upd_upd, upd_at]
        · by_cases h2 : 0 < cl
          · simp only [h1, h2, if_true, if_false] at hw
            have h3 : (cl = 0) = False := by
              apply eq_false
              intro h
              rw [h] at h2
              exact absurd h2 (by decide)
            simp (maxDischargeDepth := 7) only [C83, th83, s83_0, s83_1, s83_2, s83_3, s83_6, s83_8, s83_9, s83_11, s83_12, s83_16, s83_17, s83_20, s83_23, s83_26, s83_27, s83_29, s83_30, s83_33, s83_36, s83_37, s83_40, s83_43, s83_45, s83_46, s83_47, s83_50, s83_51, s83_54, s83_57, s83_59, s83_60, s83_62, s83_63, s83_65, s83_68, s83_70, s83_73, s83_75, s83_78, s83_79, s83_81, s83_82, s83_84, s83_85, s83_87, s83_88, s83_91, s83_94, s83_96, s83_97, s83_98, s83_99, s83_102, s83_105, s83_106, s83_107, s83_108, s83_110, s83_112, s83_113, s83_114, s83_115, s83_117, s83_119, s83_120, s83_122, s83_125, s83_128, s83_129, s83_132, s83_135, s83_136, s83_137, s83_138, s83_140, s83_141, s83_142, s83_144, cc84, g0_3, g28_7, cc76, g28_1, A30, g28_2, A31, g0_1, g5_7, A13, g5_6, A12, C76, th76, s76_0, s76_1, s76_4, s76_7, s76_8, s76_11, s76_14, s76_15, s76_16, s76_17, s76_18, s76_21, s76_22, s76_25, s76_26, g0_2, g18_0, A19, g0_3, g28_0, A29, az_ex, az_bk0, az_bk1, az_bkx, az_cat0, az_cati, az_catr, az_catl, az_vi, az_vr, az_bo0, az_bo1, az_boi, true_and, and_true, if_true, if_false, ne_eq, not_true_eq_false, not_false_eq_true, List.set_cons_zero, List.set_cons_succ, Nat.reduceAdd, Nat.reduceLeDiff, Nat.reduceEqDiff, ↓reduceIte, reduceCtorEq, Nat.reduceSub, Nat.reduceMul, Int32.reduceLT, Int32.reduceLE, Int32.reduceAdd, Int32.reduceMul, Int32.reduceSub, az_ne10, az_ne20, az_ne30, Nat.zero_le, az_q0_1, az_q0_2, az_q0_3, az_q0_4, az_q0_5, az_q0_6, az_q0_7, az_q0_8, az_q1_0, az_q1_2, az_q1_3, az_q1_4, az_q1_5, az_q1_6, az_q1_7, az_q1_8, az_q2_0, az_q2_1, az_q2_3, az_q2_4, az_q2_5, az_q2_6, az_q2_7, az_q2_8, az_q3_0, az_q3_1, az_q3_2, az_q3_4, az_q3_5, az_q3_6, az_q3_7, az_q3_8, az_q4_0, az_q4_1, az_q4_2, az_q4_3, az_q4_5, az_q4_6, az_q4_7, az_q4_8, az_q5_0, az_q5_1, az_q5_2, az_q5_3, az_q5_4, az_q5_6, az_q5_7, az_q5_8, az_q6_0, az_q6_1, az_q6_2, az_q6_3, az_q6_4, az_q6_5, az_q6_7, az_q6_8, az_q7_0, az_q7_1, az_q7_2, az_q7_3, az_q7_4, az_q7_5, az_q7_6, az_q7_8, az_q8_0, az_q8_1, az_q8_2, az_q8_3, az_q8_4, az_q8_5, az_q8_6, az_q8_7, az_z10, az_z60, az_z100, az_z1000, az_z1001, az_z10000, dSe, h7, f1, f2, f4, hh, hg, h1, h2, h3, hx, nI_1, nI_clamp (show j < 2 ^ 31 by omega), upde]
            refine az_W_cg ?_ ?_ (hw ?_ ?_)
            · rfl
            · funext q; simp only [az_upe, dSe]; by_cases e1 : q = 12 <;> by_cases e2 : q = 13 <;> by_cases e3 : q = 31 <;> simp_all [upd_upd, upd_at]
          · simp only [h1, h2, if_true, if_false] at hw
            simp (maxDischargeDepth := 7) only [C83, th83, s83_0, s83_1, s83_2, s83_3, s83_6, s83_8, s83_9, s83_11, s83_12, s83_16, s83_17, s83_20, s83_23, s83_26, s83_27, s83_29, s83_30, s83_33, s83_36, s83_37, s83_40, s83_43, s83_45, s83_46, s83_47, s83_50, s83_51, s83_54, s83_57, s83_59, s83_60, s83_62, s83_63, s83_65, s83_68, s83_70, s83_73, s83_75, s83_78, s83_79, s83_81, s83_82, s83_84, s83_85, s83_87, s83_88, s83_91, s83_94, s83_96, s83_97, s83_98, s83_99, s83_102, s83_105, s83_106, s83_107, s83_108, s83_110, s83_112, s83_113, s83_114, s83_115, s83_117, s83_119, s83_120, s83_122, s83_125, s83_128, s83_129, s83_132, s83_135, s83_136, s83_137, s83_138, s83_140, s83_141, s83_142, s83_144, cc84, g0_3, g28_7, cc76, g28_1, A30, g28_2, A31, g0_1, g5_7, A13, g5_6, A12, C76, th76, s76_0, s76_1, s76_4, s76_7, s76_8, s76_11, s76_14, s76_15, s76_16, s76_17, s76_18, s76_21, s76_22, s76_25, s76_26, g0_2, g18_0, A19, g0_3, g28_0, A29, az_ex, az_bk0, az_bk1, az_bkx, az_cat0, az_cati, az_catr, az_catl, az_vi, az_vr, az_bo0, az_bo1, az_boi, true_and, and_true, if_true, if_false, ne_eq, not_true_eq_false, not_false_eq_true, List.set_cons_zero, List.set_cons_succ, Nat.reduceAdd, Nat.reduceLeDiff, Nat.reduceEqDiff, ↓reduceIte, reduceCtorEq, Nat.reduceSub, Nat.reduceMul, Int32.reduceLT, Int32.reduceLE, Int32.reduceAdd, Int32.reduceMul, Int32.reduceSub, az_ne10, az_ne20, az_ne30, Nat.zero_le, az_q0_1, az_q0_2, az_q0_3, az_q0_4, az_q0_5, az_q0_6, az_q0_7, az_q0_8, az_q1_0, az_q1_2, az_q1_3, az_q1_4, az_q1_5, az_q1_6, az_q1_7, az_q1_8, az_q2_0, az_q2_1, az_q2_3, az_q2_4, az_q2_5, az_q2_6, az_q2_7, az_q2_8, az_q3_0, az_q3_1, az_q3_2, az_q3_4, az_q3_5, az_q3_6, az_q3_7, az_q3_8, az_q4_0, az_q4_1, az_q4_2, az_q4_3, az_q4_5, az_q4_6, az_q4_7, az_q4_8, az_q5_0, az_q5_1, az_q5_2, az_q5_3, az_q5_4, az_q5_6, az_q5_7, az_q5_8, az_q6_0, az_q6_1, az_q6_2, az_q6_3, az_q6_4, az_q6_5, az_q6_7, az_q6_8, az_q7_0, az_q7_1, az_q7_2, az_q7_3, az_q7_4, az_q7_5, az_q7_6, az_q7_8, az_q8_0, az_q8_1, az_q8_2, az_q8_3, az_q8_4, az_q8_5, az_q8_6, az_q8_7, az_z10, az_z60, az_z100, az_z1000, az_z1001, az_z10000, dSe, h7, f1, f2, f4, hh, hg, h1, h2, hx, nI_1, nI_clamp (show j < 2 ^ 31 by omega), upde]
            refine az_W_cg ?_ ?_ (hw ?_ ?_)
            · rfl
            · funext q; simp only [az_upe, dSe]; by_cases e1 : q = 12 <;> by_cases e2 : q = 13 <;> by_cases e3 : q = 31 <;> simp_all [upd_upd, upd_at]
      · simp only [hh, hg, if_true, if_false] at hw
        simp (maxDischargeDepth := 7) only [C83, th83, s83_0, s83_1, s83_2, s83_3, s83_6, s83_8, s83_9, s83_11, s83_12, s83_16, s83_17, s83_20, s83_23, s83_26, s83_27, s83_29, s83_30, s83_33, s83_36, s83_37, s83_40, s83_43, s83_45, s83_46, s83_47, s83_50, s83_51, s83_54, s83_57, s83_59, s83_60, s83_62, s83_63, s83_65, s83_68, s83_70, s83_73, s83_75, s83_78, s83_79, s83_81, s83_82, s83_84, s83_85, s83_87, s83_88, s83_91, s83_94, s83_96, s83_97, s83_98, s83_99, s83_102, s83_105, s83_106, s83_107, s83_108, s83_110, s83_112, s83_113, s83_114, s83_115, s83_117, s83_119, s83_120, s83_122, s83_125, s83_128, s83_129, s83_132, s83_135, s83_136, s83_137, s83_138, s83_140, s83_141, s83_142, s83_144, cc84, g0_3, g28_7, cc76, g28_1, A30, g28_2, A31, g0_1, g5_7, A13, g5_6, A12, C76, th76, s76_0, s76_1, s76_4, s76_7, s76_8, s76_11, s76_14, s76_15, s76_16, s76_17, s76_18, s76_21, s76_22, s76_25, s76_26, g0_2, g18_0, A19, g0_3, g28_0, A29, az_ex, az_bk0, az_bk1, az_bkx, az_cat0, az_cati, az_catr, az_catl, az_vi, az_vr, az_bo0, az_bo1, az_boi, true_and, and_true, if_true, if_false, ne_eq, not_true_eq_false, not_false_eq_true, List.set_cons_zero, List.set_cons_succ, Nat.reduceAdd, Nat.reduceLeDiff, Nat.reduceEqDiff, ↓reduceIte, reduceCtorEq, Nat.reduceSub, Nat.reduceMul, Int32.reduceLT, Int32.reduceLE, Int32.reduceAdd, Int32.reduceMul, Int32.reduceSub, az_ne10, az_ne20, az_ne30, Nat.zero_le, az_q0_1, az_q0_2, az_q0_3, az_q0_4, az_q0_5, az_q0_6, az_q0_7, az_q0_8, az_q1_0, az_q1_2, az_q1_3, az_q1_4, az_q1_5, az_q1_6, az_q1_7, az_q1_8, az_q2_0, az_q2_1, az_q2_3, az_q2_4, az_q2_5, az_q2_6, az_q2_7, az_q2_8, az_q3_0, az_q3_1, az_q3_2, az_q3_4, az_q3_5, az_q3_6, az_q3_7, az_q3_8, az_q4_0, az_q4_1, az_q4_2, az_q4_3, az_q4_5, az_q4_6, az_q4_7, az_q4_8, az_q5_0, az_q5_1, az_q5_2, az_q5_3, az_q5_4, az_q5_6, az_q5_7, az_q5_8, az_q6_0, az_q6_1, az_q6_2, az_q6_3, az_q6_4, az_q6_5, az_q6_7, az_q6_8, az_q7_0, az_q7_1, az_q7_2, az_q7_3, az_q7_4, az_q7_5, az_q7_6, az_q7_8, az_q8_0, az_q8_1, az_q8_2, az_q8_3, az_q8_4, az_q8_5, az_q8_6, az_q8_7, az_z10, az_z60, az_z100, az_z1000, az_z1001, az_z10000, dSe, h7, f1, f2, f4, hh, hg, nI_1, nI_clamp (show j < 2 ^ 31 by omega)]
        exact hw _ _
    · simp only [hh, if_true, if_false] at hw
      simp (maxDischargeDepth := 7) only [C83, th83, s83_0, s83_1, s83_2, s83_3, s83_6, s83_8, s83_9, s83_11, s83_12, s83_16, s83_17, s83_20, s83_23, s83_26, s83_27, s83_29, s83_30, s83_33, s83_36, s83_37, s83_40, s83_43, s83_45, s83_46, s83_47, s83_50, s83_51, s83_54, s83_57, s83_59, s83_60, s83_62, s83_63, s83_65, s83_68, s83_70, s83_73, s83_75, s83_78, s83_79, s83_81, s83_82, s83_84, s83_85, s83_87, s83_88, s83_91, s83_94, s83_96, s83_97, s83_98, s83_99, s83_102, s83_105, s83_106, s83_107, s83_108, s83_110, s83_112, s83_113, s83_114, s83_115, s83_117, s83_119, s83_120, s83_122, s83_125, s83_128, s83_129, s83_132, s83_135, s83_136, s83_137, s83_138, s83_140, s83_141, s83_142, s83_144, cc84, g0_3, g28_7, cc76, g28_1, A30, g28_2, A31, g0_1, g5_7, A13, g5_6, A12, C76, th76, s76_0, s76_1, s76_4, s76_7, s76_8, s76_11, s76_14, s76_15, s76_16, s76_17, s76_18, s76_21, s76_22, s76_25, s76_26, g0_2, g18_0, A19, g0_3, g28_0, A29, az_ex, az_bk0, az_bk1, az_bkx, az_cat0, az_cati, az_catr, az_catl, az_vi, az_vr, az_bo0, az_bo1, az_boi, true_and, and_true, if_true, if_false, ne_eq, not_true_eq_false, not_false_eq_true, List.set_cons_zero, List.set_cons_succ, Nat.reduceAdd, Nat.reduceLeDiff, Nat.reduceEqDiff, ↓reduceIte, reduceCtorEq, Nat.reduceSub, Nat.reduceMul, Int32.reduceLT, Int32.reduceLE, Int32.reduceAdd, Int32.reduceMul, Int32.reduceSub, az_ne10, az_ne20, az_ne30, Nat.zero_le, az_q0_1, az_q0_2, az_q0_3, az_q0_4, az_q0_5, az_q0_6, az_q0_7, az_q0_8, az_q1_0, az_q1_2, az_q1_3, az_q1_4, az_q1_5, az_q1_6, az_q1_7, az_q1_8, az_q2_0, az_q2_1, az_q2_3, az_q2_4, az_q2_5, az_q2_6, az_q2_7, az_q2_8, az_q3_0, az_q3_1, az_q3_2, az_q3_4, az_q3_5, az_q3_6, az_q3_7, az_q3_8, az_q4_0, az_q4_1, az_q4_2, az_q4_3, az_q4_5, az_q4_6, az_q4_7, az_q4_8, az_q5_0, az_q5_1, az_q5_2, az_q5_3, az_q5_4, az_q5_6, az_q5_7, az_q5_8, az_q6_0, az_q6_1, az_q6_2, az_q6_3, az_q6_4, az_q6_5, az_q6_7, az_q6_8, az_q7_0, az_q7_1, az_q7_2, az_q7_3, az_q7_4, az_q7_5, az_q7_6, az_q7_8, az_q8_0, az_q8_1, az_q8_2, az_q8_3, az_q8_4, az_q8_5, az_q8_6, az_q8_7, az_z10, az_z60, az_z100, az_z1000, az_z1001, az_z10000, dSe, h7, f1, f2, f4, hh, nI_1, nI_clamp (show j < 2 ^ 31 by omega)]
      exact hw _ _
  · intro o7 o8
    have f3 : (nI nl ≤ nI nl) = True := by rw [bz_le (by omega) (by omega)]; simp
    rw [← hs]
    refine s83_14.mpr ?_
    simp (maxDischargeDepth := 7) only [C83, th83, s83_0, s83_1, s83_2, s83_3, s83_6, s83_8, s83_9, s83_11, s83_12, s83_16, s83_17, s83_20, s83_23, s83_26, s83_27, s83_29, s83_30, s83_33, s83_36, s83_37, s83_40, s83_43, s83_45, s83_46, s83_47, s83_50, s83_51, s83_54, s83_57, s83_59, s83_60, s83_62, s83_63, s83_65, s83_68, s83_70, s83_73, s83_75, s83_78, s83_79, s83_81, s83_82, s83_84, s83_85, s83_87, s83_88, s83_91, s83_94, s83_96, s83_97, s83_98, s83_99, s83_102, s83_105, s83_106, s83_107, s83_108, s83_110, s83_112, s83_113, s83_114, s83_115, s83_117, s83_119, s83_120, s83_122, s83_125, s83_128, s83_129, s83_132, s83_135, s83_136, s83_137, s83_138, s83_140, s83_141, s83_142, s83_144, cc84, g0_3, g28_7, cc76, g28_1, A30, g28_2, A31, g0_1, g5_7, A13, g5_6, A12, az_ex, az_bk0, az_bk1, az_bkx, az_cat0, az_cati, az_catr, az_catl, az_vi, az_vr, az_bo0, az_bo1, az_boi, true_and, and_true, if_true, if_false, ne_eq, not_true_eq_false, not_false_eq_true, List.set_cons_zero, List.set_cons_succ, Nat.reduceAdd, Nat.reduceLeDiff, Nat.reduceEqDiff, ↓reduceIte, reduceCtorEq, Nat.reduceSub, Nat.reduceMul, Int32.reduceLT, Int32.reduceLE, Int32.reduceAdd, Int32.reduceMul, Int32.reduceSub, az_ne10, az_ne20, az_ne30, Nat.zero_le, az_q0_1, az_q0_2, az_q0_3, az_q0_4, az_q0_5, az_q0_6, az_q0_7, az_q0_8, az_q1_0, az_q1_2, az_q1_3, az_q1_4, az_q1_5, az_q1_6, az_q1_7, az_q1_8, az_q2_0, az_q2_1, az_q2_3, az_q2_4, az_q2_5, az_q2_6, az_q2_7, az_q2_8, az_q3_0, az_q3_1, az_q3_2, az_q3_4, az_q3_5, az_q3_6, az_q3_7, az_q3_8, az_q4_0, az_q4_1, az_q4_2, az_q4_3, az_q4_5, az_q4_6, az_q4_7, az_q4_8, az_q5_0, az_q5_1, az_q5_2, az_q5_3, az_q5_4, az_q5_6, az_q5_7, az_q5_8, az_q6_0, az_q6_1, az_q6_2, az_q6_3, az_q6_4, az_q6_5, az_q6_7, az_q6_8, az_q7_0, az_q7_1, az_q7_2, az_q7_3, az_q7_4, az_q7_5, az_q7_6, az_q7_8, az_q8_0, az_q8_1, az_q8_2, az_q8_3, az_q8_4, az_q8_5, az_q8_6, az_q8_7, az_z10, az_z60, az_z100, az_z1000, az_z1001, az_z10000, dSe, h7, f3, hx, upde]
    refine az_K_cg ?_ ?_ hK
    · rfl
    · funext q; simp only [az_upe, dSe]; by_cases e1 : q = 12 <;> by_cases e2 : q = 13 <;> by_cases e3 : q = 31 <;> simp_all [upd_upd, upd_at]
end
