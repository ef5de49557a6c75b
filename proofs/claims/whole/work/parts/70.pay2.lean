/-! a payment is made: the reference -/
theorem tk_dr2 : ∀ {L : List Nat} {g dr : Nat → Int32} {m : Int32}, L.Nodup → (∀ x, x ∈ L → 0 ≤ (g x).toInt) → 0 ≤ m.toInt → (∀ j, j ∉ L → (tk L (g, dr, m)).2.1 j = dr j) ∧ (∀ j, j ∈ L → 0 ≤ ((tk L (g, dr, m)).2.1 j).toInt) ∧ sml (tk L (g, dr, m)).2.1 L + (tk L (g, dr, m)).2.2.toInt = m.toInt := by
  intro L
  induction L with
  | nil =>
    intro g dr m _ _ hm
    refine ⟨fun _ _ => rfl, fun j hj => absurd hj (by simp), ?_⟩
    show 0 + m.toInt = m.toInt
    omega
  | cons x L ih =>
    intro g dr m hn h hm
    rw [List.nodup_cons] at hn
    have hx := h x List.mem_cons_self
    obtain ⟨a1, a2, a3⟩ := tkm_le hm hx
    have e : tk (x :: L) (g, dr, m) = tk L (upd g x (g x - tkm m (g x)), upd dr x (tkm m (g x)), m - tkm m (g x)) := rfl
    rw [e]
    obtain ⟨h1, h2, h3⟩ := ih (g := upd g x (g x - tkm m (g x))) (dr := upd dr x (tkm m (g x))) (m := m - tkm m (g x)) hn.2 (fun y hy => by rw [upde, if_neg (ne_mem hn.1 hy)]; exact h y (List.mem_cons_of_mem _ hy)) (by omega)
    refine ⟨fun j hj => ?_, fun j hj => ?_, ?_⟩
    · rw [List.mem_cons, not_or] at hj
      rw [h1 j hj.2, upde, if_neg hj.1]
    · by_cases h4 : j ∈ L
      · exact h2 j h4
      · have h5 : j = x := by
          rcases List.mem_cons.mp hj with h5 | h5
          · exact h5
          · exact absurd h5 h4
        subst h5
        rw [h1 j h4, upde, if_pos rfl]
        omega
    · show ((tk L (upd g x (g x - tkm m (g x)), upd dr x (tkm m (g x)), m - tkm m (g x))).2.1 x).toInt + sml _ L + _ = _
      rw [h1 x hn.1, upde, if_pos rfl]
      omega
def rP (I I' : Nat → Nat → Int32) (np : Nat) (g T tA : Nat → Int32) (w : Nat) : Prop := I' 169 = g ∧ I' 183 = T ∧ I' 182 = tA ∧ I' 181 = upd (I 181) np (nI w) ∧ ∀ a, a ≠ 169 → a ≠ 183 → a ≠ 182 → a ≠ 181 → I' a = I a
section
variable {xs : az_X} {d : Nat} {nl np c z : Nat} {I : Nat → Nat → Int32} {J : Nat → Nat → Int64} {K : az_O → Prop}
theorem m115l {x : Int32} {o2 o3 o4 : Option Value} (hn : nl ≤ 60) (h7 : I 152 17 = nI nl) (h31 : I 152 31 = nI np) (hnp : np < 40) : ∀ (L P : List Nat) (g dr T tA : Nat → Int32) (m : Int32) (I' : Nat → Nat → Int32) (o6 o7 : Option Value), L.Pairwise (fun a b => ltb (I 171) (I 168) a b = true) → (∀ z, z ∈ L ↔ z < nl ∧ pOn (I 167) g x z = true) → (∀ z, z < nl → 0 ≤ (g z).toInt) → 0 ≤ m.toInt → m.toInt ≤ sml g L → (P ++ L).Nodup → (∀ z, z ∈ P → z < nl) → (∀ z, z ∈ L → dr z = 0) → rP I I' np g T tA P.length → (∀ j, j < 60 → T (60 * np + j) = dr j) → (∀ k, k < P.length → tA (60 * np + k) = nI (P.getD k 0)) →
    (∀ I'' A B T' tA' o6 o7, L = A ++ B → (∀ y, y ∈ B → (tk L (g, dr, m)).2.1 y = 0) → rP I I'' np (tk L (g, dr, m)).1 T' tA' (P ++ A).length → (∀ j, j < 60 → T' (60 * np + j) = (tk L (g, dr, m)).2.1 j) → (∀ i, (i < 60 * np ∨ 60 * np + 60 ≤ i) → T' i = T i ∧ tA' i = tA i) → (∀ k, k < (P ++ A).length → tA' (60 * np + k) = nI ((P ++ A).getD k 0)) → az_W xs (d + 2) 115 233 [some (.ref 152), some (.int x), o2, o3, o4, some (.int 0), o6, o7] [] (az_S, I'', J, c, z) K) →
    az_W xs (d + 2) 115 119 [some (.ref 152), some (.int x), o2, o3, o4, some (.int m), o6, o7] [] (az_S, I', J, c, z) K := by
  intro L
  induction L with
  | nil =>
    intro P g dr T tA m I' o6 o7 hs hm hg h0 hsum hnd hP hdz hR hT htA hK
    have hm0 : m = 0 := by
      apply Int32.toInt_inj.mp
      have : m.toInt ≤ 0 := hsum
      rw [show (0 : Int32).toInt = 0 from rfl]
      omega
    subst hm0
    refine s115_119.mpr ?_
    simp (maxDischargeDepth := 7) only [C115, th115, s115_0, s115_1, s115_2, s115_5, s115_6, s115_7, s115_10, s115_11, s115_12, s115_15, s115_18, s115_21, s115_22, s115_25, s115_26, s115_28, s115_29, s115_30, s115_33, s115_34, s115_37, s115_39, s115_42, s115_43, s115_46, s115_47, s115_48, s115_49, s115_52, s115_55, s115_56, s115_59, s115_60, s115_63, s115_66, s115_67, s115_68, s115_69, s115_72, s115_74, s115_75, s115_78, s115_79, s115_82, s115_83, s115_84, s115_85, s115_88, s115_89, s115_92, s115_93, s115_96, s115_97, s115_98, s115_101, s115_102, s115_105, s115_107, s115_108, s115_109, s115_112, s115_113, s115_116, s115_118, s115_121, s115_124, s115_125, s115_126, s115_129, s115_131, s115_132, s115_135, s115_137, s115_138, s115_140, s115_143, s115_144, s115_147, s115_149, s115_150, s115_153, s115_155, s115_157, s115_158, s115_161, s115_163, s115_164, s115_165, s115_167, s115_168, s115_169, s115_171, s115_173, s115_174, s115_176, s115_177, s115_180, s115_182, s115_183, s115_186, s115_187, s115_188, s115_191, s115_192, s115_195, s115_196, s115_197, s115_199, s115_200, s115_201, s115_204, s115_206, s115_207, s115_210, s115_211, s115_213, s115_214, s115_216, s115_217, s115_218, s115_221, s115_222, s115_225, s115_226, s115_227, s115_228, s115_229, s115_230, s115_234, s115_237, s115_238, s115_239, s115_242, s115_243, s115_244, s115_245, s115_248, s115_249, s115_250, s115_253, s115_254, s115_257, s115_258, s115_259, cc93, cc90, cc114, cc89, g152_29, g152_32, A177, g152_31, g152_33, A178, g152_1, g152_34, A179, g152_35, A180, cc113, g152_20, A169, g152_37, A182, g152_36, A181, g152_38, A183, g152_14, A164, p152_31, az_ex, az_bk0, az_bk1, az_bkx, az_cat0, az_cati, az_catr, az_catl, az_vi, az_vr, az_bo0, az_bo1, az_boi, true_and, and_true, if_true, if_false, ne_eq, not_true_eq_false, not_false_eq_true, List.set_cons_zero, List.set_cons_succ, Nat.reduceAdd, Nat.reduceLeDiff, Nat.reduceEqDiff, ↓reduceIte, reduceCtorEq, Nat.reduceSub, Nat.reduceMul, Int32.reduceLT, Int32.reduceLE, Int32.reduceAdd, Int32.reduceMul, Int32.reduceSub, az_ne10, az_ne20, az_ne30, Nat.zero_le]
    refine hK I' [] [] T tA _ _ rfl (fun y hy => absurd hy (by simp)) ?_ hT (fun i _ => ⟨rfl, rfl⟩) ?_
    · rw [List.append_nil]; exact hR
    · rw [List.append_nil]; exact htA
  | cons y L ih =>
    intro P g dr T tA m I' o6 o7 hs hm hg h0 hsum hnd hP hdz hR hT htA hK
    have hgL : ∀ z, z ∈ y :: L → 0 ≤ (g z).toInt := fun z hz => hg z ((hm z).mp hz).1
    by_cases h1 : m ≤ 0
    · have h2 : m = 0 := by
        have := Int32.le_iff_toInt_le.mp h1
        apply Int32.toInt_inj.mp
        rw [show (0 : Int32).toInt = 0 from rfl] at *
        omega
      subst h2
      obtain ⟨e1, e2, e3⟩ := tk_0 (L := y :: L) (g := g) (dr := dr) hgL
      refine s115_119.mpr ?_
      simp (maxDischargeDepth := 7) only [C115, th115, s115_0, s115_1, s115_2, s115_5, s115_6, s115_7, s115_10, s115_11, s115_12, s115_15, s115_18, s115_21, s115_22, s115_25, s115_26, s115_28, s115_29, s115_30, s115_33, s115_34, s115_37, s115_39, s115_42, s115_43, s115_46, s115_47, s115_48, s115_49, s115_52, s115_55, s115_56, s115_59, s115_60, s115_63, s115_66, s115_67, s115_68, s115_69, s115_72, s115_74, s115_75, s115_78, s115_79, s115_82, s115_83, s115_84, s115_85, s115_88, s115_89, s115_92, s115_93, s115_96, s115_97, s115_98, s115_101, s115_102, s115_105, s115_107, s115_108, s115_109, s115_112, s115_113, s115_116, s115_118, s115_121, s115_124, s115_125, s115_126, s115_129, s115_131, s115_132, s115_135, s115_137, s115_138, s115_140, s115_143, s115_144, s115_147, s115_149, s115_150, s115_153, s115_155, s115_157, s115_158, s115_161, s115_163, s115_164, s115_165, s115_167, s115_168, s115_169, s115_171, s115_173, s115_174, s115_176, s115_177, s115_180, s115_182, s115_183, s115_186, s115_187, s115_188, s115_191, s115_192, s115_195, s115_196, s115_197, s115_199, s115_200, s115_201, s115_204, s115_206, s115_207, s115_210, s115_211, s115_213, s115_214, s115_216, s115_217, s115_218, s115_221, s115_222, s115_225, s115_226, s115_227, s115_228, s115_229, s115_230, s115_234, s115_237, s115_238, s115_239, s115_242, s115_243, s115_244, s115_245, s115_248, s115_249, s115_250, s115_253, s115_254, s115_257, s115_258, s115_259, cc93, cc90, cc114, cc89, g152_29, g152_32, A177, g152_31, g152_33, A178, g152_1, g152_34, A179, g152_35, A180, cc113, g152_20, A169, g152_37, A182, g152_36, A181, g152_38, A183, g152_14, A164, p152_31, az_ex, az_bk0, az_bk1, az_bkx, az_cat0, az_cati, az_catr, az_catl, az_vi, az_vr, az_bo0, az_bo1, az_boi, true_and, and_true, if_true, if_false, ne_eq, not_true_eq_false, not_false_eq_true, List.set_cons_zero, List.set_cons_succ, Nat.reduceAdd, Nat.reduceLeDiff, Nat.reduceEqDiff, ↓reduceIte, reduceCtorEq, Nat.reduceSub, Nat.reduceMul, Int32.reduceLT, Int32.reduceLE, Int32.reduceAdd, Int32.reduceMul, Int32.reduceSub, az_ne10, az_ne20, az_ne30, Nat.zero_le]
      refine hK I' [] (y :: L) T tA _ _ rfl (fun z hz => by rw [e3, if_pos hz]) ?_ (fun j hj => ?_) (fun i _ => ⟨rfl, rfl⟩) ?_
      · rw [List.append_nil, e1]; exact hR
      · rw [hT j hj, e3]
        split
        · rename_i h3
          exact hdz j h3
        · rfl
      · rw [List.append_nil]; exact htA
    · obtain ⟨hy, hyp⟩ := (hm y).mp List.mem_cons_self
      have hndL : (y :: L).Nodup := (List.nodup_append.mp hnd).2.1
      have hyL : y ∉ L := (List.nodup_cons.mp hndL).1
      have hlen : (P ++ y :: L).length ≤ nl := nd_len hnd (fun z hz => by
        rcases List.mem_append.mp hz with h2 | h2
        · exact hP z h2
        · exact ((hm z).mp h2).1)
      have hw : P.length < 60 := by
        rw [List.length_append, List.length_cons] at hlen
        omega
      have hff := ffst_list ltb_ir ltb_t ltb_tot (show nl < 2 ^ 31 by omega) hs hm
      obtain ⟨a1, a2, a3⟩ := tkm_le h0 (hg y hy)
      have f1 : az_in (nI y) 60 = true := by rw [az_in_nI (by omega)]; simp; omega
      have f2 : az_in (nI np) 40 = true := by rw [az_in_nI (by omega)]; simp; omega
      have f3 : az_in (nI (60 * np + P.length)) 2400 = true := by rw [az_in_nI (by omega)]; simp; omega
      have f4 : az_in (nI (60 * np + y)) 2400 = true := by rw [az_in_nI (by omega)]; simp; omega
      have e60 : (60 : Int32) * nI np = nI (60 * np) := bz_mul 60 np
      have e61 : nI (60 * np) + nI P.length = nI (60 * np + P.length) := bz_add _ _
      have e62 : nI (60 * np) + nI y = nI (60 * np + y) := bz_add _ _
      have e9 : tk (y :: L) (g, dr, m) = tk L (upd g y (g y - tkm m (g y)), upd dr y (tkm m (g y)), m - tkm m (g y)) := rfl
      rw [e9] at hK
      obtain ⟨r1, r2, r3, r4, r5⟩ := id hR
      have i152 : I' 152 = I 152 := r5 152 (by decide) (by decide) (by decide) (by decide)
      have i167 : I' 167 = I 167 := r5 167 (by decide) (by decide) (by decide) (by decide)
      have i168 : I' 168 = I 168 := r5 168 (by decide) (by decide) (by decide) (by decide)
      have i171 : I' 171 = I 171 := r5 171 (by decide) (by decide) (by decide) (by decide)
      have eI : ∀ t : Int32, rP I (az_up (az_up (az_up (az_up I' 169 y (g y - t)) 182 (60 * np + P.length) (nI y)) 183 (60 * np + y) t) 181 np (nI (P.length + 1))) np (upd g y (g y - t)) (upd T (60 * np + y) t) (upd tA (60 * np + P.length) (nI y)) (P ++ [y]).length := fun t => by
        refine ⟨by simp [az_upe, r1], by simp [az_upe, r2], by simp [az_upe, r3], by simp [az_upe, r4, upd_upd], fun a b1 b2 b3 b4 => ?_⟩
        rw [az_up_ne b4, az_up_ne b2, az_up_ne b3, az_up_ne b1]
        exact r5 a b1 b2 b3 b4
      have hT2 : ∀ t : Int32, ∀ j, j < 60 → upd T (60 * np + y) t (60 * np + j) = upd dr y t j := fun t j hj => by
        rw [upde, upde]
        by_cases h3 : j = y
        · rw [if_pos (by omega), if_pos h3]
        · rw [if_neg (by omega), if_neg h3]
          exact hT j hj
      have htA2 : ∀ k, k < (P ++ [y]).length → upd tA (60 * np + P.length) (nI y) (60 * np + k) = nI ((P ++ [y]).getD k 0) := fun k hk => by
        rw [upde]
        rw [List.length_append, List.length_singleton] at hk
        by_cases h3 : k = P.length
        · rw [if_pos (by omega), h3]
          simp
        · rw [if_neg (by omega), htA k (by omega), List.getD_eq_getElem?_getD, List.getD_eq_getElem?_getD, List.getElem?_append_left (by omega)]
      have hout : ∀ t : Int32, ∀ i, (i < 60 * np ∨ 60 * np + 60 ≤ i) → upd T (60 * np + y) t i = T i ∧ upd tA (60 * np + P.length) (nI y) i = tA i := fun t i hi => by
        rw [upde, upde, if_neg (by omega), if_neg (by omega)]
        exact ⟨rfl, rfl⟩
      have hgo : ∀ t : Int32, t = tkm m (g y) → ∀ o6 o7, az_W xs (d + 2) 115 119 [some (.ref 152), some (.int x), o2, o3, o4, some (.int (m - t)), o6, o7] [] (az_S, az_up (az_up (az_up (az_up I' 169 y (g y - t)) 182 (60 * np + P.length) (nI y)) 183 (60 * np + y) t) 181 np (nI (P.length + 1)), J, c, z) K := by
        intro t ht o6 o7
        rw [← ht] at hK a1 a2 a3
        by_cases h3 : (g y).toInt ≤ m.toInt
        · rw [List.pairwise_cons] at hs
          refine ih (P ++ [y]) (upd g y (g y - t)) (upd dr y t) (upd T (60 * np + y) t) (upd tA (60 * np + P.length) (nI y)) (m - t) _ o6 o7 hs.2 (pOn_upd hm hyL (by omega)) (fun z hz => ?_) (by omega) ?_ (by rw [List.append_assoc]; exact hnd) (fun z hz => ?_) (fun z hz => ?_) (eI t) (hT2 t) htA2 ?_
          · rw [upde]
            split
            · omega
            · exact hg z hz
          · rw [sml_upd hyL, a2]
            have hsum : m.toInt ≤ (g y).toInt + sml g L := hsum
            omega
          · rcases List.mem_append.mp hz with h4 | h4
            · exact hP z h4
            · rw [List.mem_singleton.mp h4]; exact hy
          · rw [upde, if_neg (ne_mem hyL hz)]
            exact hdz z (List.mem_cons_of_mem _ hz)
          · intro I2 A B T' tA' o6' o7' hAB hB hR2 hT' hout' htA'
            refine hK I2 (y :: A) B T' tA' o6' o7' (by rw [hAB]; rfl) hB ?_ hT' (fun i hi => ?_) ?_
            · rw [List.append_assoc] at hR2; exact hR2
            · obtain ⟨k1, k2⟩ := hout' i hi
              obtain ⟨k3, k4⟩ := hout t i hi
              exact ⟨k1.trans k3, k2.trans k4⟩
            · rw [List.append_assoc] at htA'; exact htA'
        · have h4 : m - t = 0 := Int32.toInt_inj.mp (by rw [a2]; show _ = (0 : Int); omega)
          rw [h4] at hK ⊢
          obtain ⟨e1, e2, e3⟩ := tk_0 (L := L) (g := upd g y (g y - t)) (dr := upd dr y t) (fun z hz => by
            rw [upde, if_neg (ne_mem hyL hz)]
            exact hgL z (List.mem_cons_of_mem _ hz))
          refine s115_119.mpr ?_
          simp (maxDischargeDepth := 7) only [C115, th115, s115_0, s115_1, s115_2, s115_5, s115_6, s115_7, s115_10, s115_11, s115_12, s115_15, s115_18, s115_21, s115_22, s115_25, s115_26, s115_28, s115_29, s115_30, s115_33, s115_34, s115_37, s115_39, s115_42, s115_43, s115_46, s115_47, s115_48, s115_49, s115_52, s115_55, s115_56, s115_59, s115_60, s115_63, s115_66, s115_67, s115_68, s115_69, s115_72, s115_74, s115_75, s115_78, s115_79, s115_82, s115_83, s115_84, s115_85, s115_88, s115_89, s115_92, s115_93, s115_96, s115_97, s115_98, s115_101, s115_102, s115_105, s115_107, s115_108, s115_109, s115_112, s115_113, s115_116, s115_118, s115_121, s115_124, s115_125, s115_126, s115_129, s115_131, s115_132, s115_135, s115_137, s115_138, s115_140, s115_143, s115_144, s115_147, s115_149, s115_150, s115_153, s115_155, s115_157, s115_158, s115_161, s115_163, s115_164, s115_165, s115_167, s115_168, s115_169, s115_171, s115_173, s115_174, s115_176, s115_177, s115_180, s115_182, s115_183, s115_186, s115_187, s115_188, s115_191, s115_192, s115_195, s115_196, s115_197, s115_199, s115_200, s115_201, s115_204, s115_206, s115_207, s115_210, s115_211, s115_213, s115_214, s115_216, s115_217, s115_218, s115_221, s115_222, s115_225, s115_226, s115_227, s115_228, s115_229, s115_230, s115_234, s115_237, s115_238, s115_239, s115_242, s115_243, s115_244, s115_245, s115_248, s115_249, s115_250, s115_253, s115_254, s115_257, s115_258, s115_259, cc93, cc90, cc114, cc89, g152_29, g152_32, A177, g152_31, g152_33, A178, g152_1, g152_34, A179, g152_35, A180, cc113, g152_20, A169, g152_37, A182, g152_36, A181, g152_38, A183, g152_14, A164, p152_31, az_ex, az_bk0, az_bk1, az_bkx, az_cat0, az_cati, az_catr, az_catl, az_vi, az_vr, az_bo0, az_bo1, az_boi, true_and, and_true, if_true, if_false, ne_eq, not_true_eq_false, not_false_eq_true, List.set_cons_zero, List.set_cons_succ, Nat.reduceAdd, Nat.reduceLeDiff, Nat.reduceEqDiff, ↓reduceIte, reduceCtorEq, Nat.reduceSub, Nat.reduceMul, Int32.reduceLT, Int32.reduceLE, Int32.reduceAdd, Int32.reduceMul, Int32.reduceSub, az_ne10, az_ne20, az_ne30, Nat.zero_le]
          refine hK _ [y] L _ _ _ _ rfl (fun z hz => by rw [e3, if_pos hz]) (by rw [e1]; exact eI t) (fun j hj => ?_) (hout t) htA2
          rw [hT2 t j hj, e3]
          split
          · rename_i h5
            rw [upde, if_neg (ne_mem hyL h5)]
            exact hdz j (List.mem_cons_of_mem _ h5)
          · rfl
      have i169 : pOn (I' 167) (I' 169) x = pOn (I 167) g x := by rw [i167, r1]
      have r113' : ∀ K' : az_O → Prop, K' (0, some (.int (nI y)), (az_S, I', J, c, z)) → az_C xs (d + 2) 113 [.ref 152, .int x] (az_S, I', J, c, z) K' := fun K' hK' => by
        refine r113 hn (by rw [i152]; exact h7) ?_
        rw [i171, i168, i169, hff]
        exact hK'
      refine s115_119.mpr ?_
      simp (maxDischargeDepth := 7) only [C115, th115, s115_0, s115_1, s115_2, s115_5, s115_6, s115_7, s115_10, s115_11, s115_12, s115_15, s115_18, s115_21, s115_22, s115_25, s115_26, s115_28, s115_29, s115_30, s115_33, s115_34, s115_37, s115_39, s115_42, s115_43, s115_46, s115_47, s115_48, s115_49, s115_52, s115_55, s115_56, s115_59, s115_60, s115_63, s115_66, s115_67, s115_68, s115_69, s115_72, s115_74, s115_75, s115_78, s115_79, s115_82, s115_83, s115_84, s115_85, s115_88, s115_89, s115_92, s115_93, s115_96, s115_97, s115_98, s115_101, s115_102, s115_105, s115_107, s115_108, s115_109, s115_112, s115_113, s115_116, s115_118, s115_121, s115_124, s115_125, s115_126, s115_129, s115_131, s115_132, s115_135, s115_137, s115_138, s115_140, s115_143, s115_144, s115_147, s115_149, s115_150, s115_153, s115_155, s115_157, s115_158, s115_161, s115_163, s115_164, s115_165, s115_167, s115_168, s115_169, s115_171, s115_173, s115_174, s115_176, s115_177, s115_180, s115_182, s115_183, s115_186, s115_187, s115_188, s115_191, s115_192, s115_195, s115_196, s115_197, s115_199, s115_200, s115_201, s115_204, s115_206, s115_207, s115_210, s115_211, s115_213, s115_214, s115_216, s115_217, s115_218, s115_221, s115_222, s115_225, s115_226, s115_227, s115_228, s115_229, s115_230, s115_234, s115_237, s115_238, s115_239, s115_242, s115_243, s115_244, s115_245, s115_248, s115_249, s115_250, s115_253, s115_254, s115_257, s115_258, s115_259, cc93, cc90, cc114, cc89, g152_29, g152_32, A177, g152_31, g152_33, A178, g152_1, g152_34, A179, g152_35, A180, cc113, g152_20, A169, g152_37, A182, g152_36, A181, g152_38, A183, g152_14, A164, p152_31, az_ex, az_bk0, az_bk1, az_bkx, az_cat0, az_cati, az_catr, az_catl, az_vi, az_vr, az_bo0, az_bo1, az_boi, true_and, and_true, if_true, if_false, ne_eq, not_true_eq_false, not_false_eq_true, List.set_cons_zero, List.set_cons_succ, Nat.reduceAdd, Nat.reduceLeDiff, Nat.reduceEqDiff, ↓reduceIte, reduceCtorEq, Nat.reduceSub, Nat.reduceMul, Int32.reduceLT, Int32.reduceLE, Int32.reduceAdd, Int32.reduceMul, Int32.reduceSub, az_ne10, az_ne20, az_ne30, Nat.zero_le, h1]
      refine r113' _ ?_
      by_cases h6 : g y < m
      · have h7' : tkm m (g y) = g y := if_pos h6
        have hgo' := hgo (g y) h7'.symm
        simp (maxDischargeDepth := 7) only [C115, th115, s115_0, s115_1, s115_2, s115_5, s115_6, s115_7, s115_10, s115_11, s115_12, s115_15, s115_18, s115_21, s115_22, s115_25, s115_26, s115_28, s115_29, s115_30, s115_33, s115_34, s115_37, s115_39, s115_42, s115_43, s115_46, s115_47, s115_48, s115_49, s115_52, s115_55, s115_56, s115_59, s115_60, s115_63, s115_66, s115_67, s115_68, s115_69, s115_72, s115_74, s115_75, s115_78, s115_79, s115_82, s115_83, s115_84, s115_85, s115_88, s115_89, s115_92, s115_93, s115_96, s115_97, s115_98, s115_101, s115_102, s115_105, s115_107, s115_108, s115_109, s115_112, s115_113, s115_116, s115_118, s115_121, s115_124, s115_125, s115_126, s115_129, s115_131, s115_132, s115_135, s115_137, s115_138, s115_140, s115_143, s115_144, s115_147, s115_149, s115_150, s115_153, s115_155, s115_157, s115_158, s115_161, s115_163, s115_164, s115_165, s115_167, s115_168, s115_169, s115_171, s115_173, s115_174, s115_176, s115_177, s115_180, s115_182, s115_183, s115_186, s115_187, s115_188, s115_191, s115_192, s115_195, s115_196, s115_197, s115_199, s115_200, s115_201, s115_204, s115_206, s115_207, s115_210, s115_211, s115_213, s115_214, s115_216, s115_217, s115_218, s115_221, s115_222, s115_225, s115_226, s115_227, s115_228, s115_229, s115_230, s115_234, s115_237, s115_238, s115_239, s115_242, s115_243, s115_244, s115_245, s115_248, s115_249, s115_250, s115_253, s115_254, s115_257, s115_258, s115_259, cc93, cc90, cc114, cc89, g152_29, g152_32, A177, g152_31, g152_33, A178, g152_1, g152_34, A179, g152_35, A180, cc113, g152_20, A169, g152_37, A182, g152_36, A181, g152_38, A183, g152_14, A164, p152_31, az_ex, az_bk0, az_bk1, az_bkx, az_cat0, az_cati, az_catr, az_catl, az_vi, az_vr, az_bo0, az_bo1, az_boi, true_and, and_true, if_true, if_false, ne_eq, not_true_eq_false, not_false_eq_true, List.set_cons_zero, List.set_cons_succ, Nat.reduceAdd, Nat.reduceLeDiff, Nat.reduceEqDiff, ↓reduceIte, reduceCtorEq, Nat.reduceSub, Nat.reduceMul, Int32.reduceLT, Int32.reduceLE, Int32.reduceAdd, Int32.reduceMul, Int32.reduceSub, az_ne10, az_ne20, az_ne30, Nat.zero_le, az_q0_1, az_q0_2, az_q0_3, az_q0_4, az_q0_5, az_q0_6, az_q0_7, az_q0_8, az_q1_0, az_q1_2, az_q1_3, az_q1_4, az_q1_5, az_q1_6, az_q1_7, az_q1_8, az_q2_0, az_q2_1, az_q2_3, az_q2_4, az_q2_5, az_q2_6, az_q2_7, az_q2_8, az_q3_0, az_q3_1, az_q3_2, az_q3_4, az_q3_5, az_q3_6, az_q3_7, az_q3_8, az_q4_0, az_q4_1, az_q4_2, az_q4_3, az_q4_5, az_q4_6, az_q4_7, az_q4_8, az_q5_0, az_q5_1, az_q5_2, az_q5_3, az_q5_4, az_q5_6, az_q5_7, az_q5_8, az_q6_0, az_q6_1, az_q6_2, az_q6_3, az_q6_4, az_q6_5, az_q6_7, az_q6_8, az_q7_0, az_q7_1, az_q7_2, az_q7_3, az_q7_4, az_q7_5, az_q7_6, az_q7_8, az_q8_0, az_q8_1, az_q8_2, az_q8_3, az_q8_4, az_q8_5, az_q8_6, az_q8_7, az_z10, az_z60, az_z100, az_z1000, az_z1001, az_z10000, az_upe, r1, r4, i152, h31, upd_at, f1, f2, f3, f4, e60, e61, e62, bz_nlt, h6, nI_1, nI_clamp (show y < 2 ^ 31 by omega), nI_clamp (show np < 2 ^ 31 by omega), nI_clamp (show 60 * np + P.length < 2 ^ 31 by omega), nI_clamp (show 60 * np + y < 2 ^ 31 by omega)]
        exact hgo' _ _
      · have h7' : tkm m (g y) = m := if_neg h6
        have hgo' := hgo m h7'.symm
        simp (maxDischargeDepth := 7) only [C115, th115, s115_0, s115_1, s115_2, s115_5, s115_6, s115_7, s115_10, s115_11, s115_12, s115_15, s115_18, s115_21, s115_22, s115_25, s115_26, s115_28, s115_29, s115_30, s115_33, s115_34, s115_37, s115_39, s115_42, s115_43, s115_46, s115_47, s115_48, s115_49, s115_52, s115_55, s115_56, s115_59, s115_60, s115_63, s115_66, s115_67, s115_68, s115_69, s115_72, s115_74, s115_75, s115_78, s115_79, s115_82, s115_83, s115_84, s115_85, s115_88, s115_89, s115_92, s115_93, s115_96, s115_97, s115_98, s115_101, s115_102, s115_105, s115_107, s115_108, s115_109, s115_112, s115_113, s115_116, s115_118, s115_121, s115_124, s115_125, s115_126, s115_129, s115_131, s115_132, s115_135, s115_137, s115_138, s115_140, s115_143, s115_144, s115_147, s115_149, s115_150, s115_153, s115_155, s115_157, s115_158, s115_161, s115_163, s115_164, s115_165, s115_167, s115_168, s115_169, s115_171, s115_173, s115_174, s115_176, s115_177, s115_180, s115_182, s115_183, s115_186, s115_187, s115_188, s115_191, s115_192, s115_195, s115_196, s115_197, s115_199, s115_200, s115_201, s115_204, s115_206, s115_207, s115_210, s115_211, s115_213, s115_214, s115_216, s115_217, s115_218, s115_221, s115_222, s115_225, s115_226, s115_227, s115_228, s115_229, s115_230, s115_234, s115_237, s115_238, s115_239, s115_242, s115_243, s115_244, s115_245, s115_248, s115_249, s115_250, s115_253, s115_254, s115_257, s115_258, s115_259, cc93, cc90, cc114, cc89, g152_29, g152_32, A177, g152_31, g152_33, A178, g152_1, g152_34, A179, g152_35, A180, cc113, g152_20, A169, g152_37, A182, g152_36, A181, g152_38, A183, g152_14, A164, p152_31, az_ex, az_bk0, az_bk1, az_bkx, az_cat0, az_cati, az_catr, az_catl, az_vi, az_vr, az_bo0, az_bo1, az_boi, true_and, and_true, if_true, if_false, ne_eq, not_true_eq_false, not_false_eq_true, List.set_cons_zero, List.set_cons_succ, Nat.reduceAdd, Nat.reduceLeDiff, Nat.reduceEqDiff, ↓reduceIte, reduceCtorEq, Nat.reduceSub, Nat.reduceMul, Int32.reduceLT, Int32.reduceLE, Int32.reduceAdd, Int32.reduceMul, Int32.reduceSub, az_ne10, az_ne20, az_ne30, Nat.zero_le, az_q0_1, az_q0_2, az_q0_3, az_q0_4, az_q0_5, az_q0_6, az_q0_7, az_q0_8, az_q1_0, az_q1_2, az_q1_3, az_q1_4, az_q1_5, az_q1_6, az_q1_7, az_q1_8, az_q2_0, az_q2_1, az_q2_3, az_q2_4, az_q2_5, az_q2_6, az_q2_7, az_q2_8, az_q3_0, az_q3_1, az_q3_2, az_q3_4, az_q3_5, az_q3_6, az_q3_7, az_q3_8, az_q4_0, az_q4_1, az_q4_2, az_q4_3, az_q4_5, az_q4_6, az_q4_7, az_q4_8, az_q5_0, az_q5_1, az_q5_2, az_q5_3, az_q5_4, az_q5_6, az_q5_7, az_q5_8, az_q6_0, az_q6_1, az_q6_2, az_q6_3, az_q6_4, az_q6_5, az_q6_7, az_q6_8, az_q7_0, az_q7_1, az_q7_2, az_q7_3, az_q7_4, az_q7_5, az_q7_6, az_q7_8, az_q8_0, az_q8_1, az_q8_2, az_q8_3, az_q8_4, az_q8_5, az_q8_6, az_q8_7, az_z10, az_z60, az_z100, az_z1000, az_z1001, az_z10000, az_upe, r1, r4, i152, h31, upd_at, f1, f2, f3, f4, e60, e61, e62, bz_nlt, h6, nI_1, nI_clamp (show y < 2 ^ 31 by omega), nI_clamp (show np < 2 ^ 31 by omega), nI_clamp (show 60 * np + P.length < 2 ^ 31 by omega), nI_clamp (show 60 * np + y < 2 ^ 31 by omega)]
        exact hgo' _ _
end
