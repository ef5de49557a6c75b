/-! the steps that make cells -/
theorem az_w_apps {cy : Nat → ClassId} {ad ad' : Nat → Nat} {G G' : az_G} {sl : List az_Shp} {ws : va_W} (hwf : az_wf G.1) (h1 : G'.1 = G.1 ++ sl) (hI : ∀ b : Nat, b < G.1.length → G'.2.1 b = G.2.1 b) (hJ : ∀ b : Nat, b < G.1.length → G'.2.2.1 b = G.2.2.1 b)
    (had : ∀ b : Nat, b < G.1.length → ad' b = ad b) (hws : ws = (List.range sl.length).map fun j => (ad' (G.1.length + j), az_E cy ad' G'.2.1 G'.2.2.1 (G.1.length + j) (sl.getD j (0, 0, [])))) : az_w cy ad G ++ ws = az_w cy ad' G' := by
  subst hws
  unfold az_w
  apply List.ext_getElem?
  intro i
  have hlen : G'.1.length = G.1.length + sl.length := by rw [h1, List.length_append]
  by_cases hi : i < G.1.length
  · rw [List.getElem?_append_left (by simpa using hi), List.getElem?_map, List.getElem?_map, List.getElem?_range hi, List.getElem?_range (by omega)]
    simp only [Option.map_some]
    rw [had i hi]
    have hg : G'.1.getD i (0, 0, []) = G.1.getD i (0, 0, []) := by simp only [List.getD, h1, List.getElem?_append_left hi]
    rw [hg, az_E_I (hI i hi) (hJ i hi)]
    have hE : az_E cy ad' G.2.1 G.2.2.1 i (G.1.getD i (0, 0, [])) = az_E cy ad G.2.1 G.2.2.1 i (G.1.getD i (0, 0, [])) := by
      refine az_E_ad (fun r hr => had r ?_)
      have hm : G.1.getD i (0, 0, []) ∈ G.1 := by
        rw [show G.1.getD i (0, 0, []) = G.1[i] by simp [List.getD, hi]]
        exact List.getElem_mem hi
      exact hwf _ hm r hr
    rw [hE]
  · rw [List.getElem?_append_right (by simpa using hi), List.getElem?_map, List.getElem?_map, List.length_map, List.length_range]
    by_cases h2 : i < G'.1.length
    · rw [List.getElem?_range (by omega), List.getElem?_range h2]
      simp only [Option.map_some]
      have he : G.1.length + (i - G.1.length) = i := by omega
      have hg : G'.1.getD i (0, 0, []) = sl.getD (i - G.1.length) (0, 0, []) := by simp only [List.getD, h1, List.getElem?_append_right (Nat.le_of_not_lt hi)]
      rw [he, hg]
    · rw [List.getElem?_eq_none (by rw [List.length_range]; omega), List.getElem?_eq_none (by rw [List.length_range]; omega)]
      rfl
theorem az_clr_lt {I : Nat → Nat → Int32} {n b : Nat} (h : b < n) : az_clr I n b = I b := by
  funext j
  simp [az_clr, Nat.not_le.mpr h]
theorem az_clrJ_lt {J : Nat → Nat → Int64} {n b : Nat} (h : b < n) : az_clrJ J n b = J b := by
  funext j
  simp [az_clrJ, Nat.not_le.mpr h]
theorem az_clr_ge {I : Nat → Nat → Int32} {n b : Nat} (h : n ≤ b) : az_clr I n b = fun _ => 0 := by
  funext j
  simp [az_clr, h]
theorem az_clrJ_ge {J : Nat → Nat → Int64} {n b : Nat} (h : n ≤ b) : az_clrJ J n b = fun _ => 0 := by
  funext j
  simp [az_clrJ, h]
theorem az_tyc : ∀ c, c < 7 → ∀ j, j < az_N c → az_ty c j = .int ∨ (az_ty c j).isReference = true := by decide +kernel
theorem az_dfr {ty : FieldType} (h : ty.isReference = true) : defaultValue ty = .null := by
  cases ty <;> first | (cases h; done) | rfl
theorem az_df_no (ci r : Nat) : ¬ some (some r) ∈ az_df ci := by
  intro h
  unfold az_df at h
  obtain ⟨j, -, hj⟩ := List.mem_map.mp h
  split at hj <;> cases hj
theorem az_wf_app {S sl : List az_Shp} (h : az_wf S) (hs : ∀ sh ∈ sl, ∀ r : Nat, some (some r) ∈ sh.2.2 → r < S.length + sl.length) : az_wf (S ++ sl) := by
  intro sh hsh r hr
  rw [List.length_append]
  rcases List.mem_append.mp hsh with h1 | h1
  · exact Nat.lt_of_lt_of_le (h sh h1 r hr) (Nat.le_add_right _ _)
  · exact hs sh h1 r hr
/-- the state behind a making -/
theorem az_at_app {D : va_G} {cy : Nat → ClassId} {A : Nat → Prop} {H0 H1 : Heap} {ad0 ad ad' : Nat → Nat} {n0 c0 s0 cells slots k n : Nat} {L : az_Ls} {ls : Array Slot} {st st' : List Value} {G G' : az_G} {H : Heap} {locs : List Loc} {sl : List az_Shp} {ws : va_W}
    (hR : az_at D cy A H0 ad0 n0 c0 s0 ad L ls st G H locs cells slots) (hlt : G.1.length < 100000) (hsl : sl.length ≤ 1001) (h1 : G'.1 = G.1 ++ sl) (hI : ∀ b : Nat, b < G.1.length → G'.2.1 b = G.2.1 b) (hJ : ∀ b : Nat, b < G.1.length → G'.2.2.1 b = G.2.2.1 b)
    (had : ∀ b : Nat, b < G.1.length → ad' b = ad b) (hsc : ad' az_scr = ad az_scr) (hws : ws = (List.range sl.length).map fun j => (ad' (G.1.length + j), az_E cy ad' G'.2.1 G'.2.2.1 (G.1.length + j) (sl.getD j (0, 0, []))))
    (hr : ∀ sh ∈ sl, ∀ r : Nat, some (some r) ∈ sh.2.2 → r < G.1.length + sl.length) (hc : G'.2.2.2.1 = G.2.2.2.1 + k) (hs : G'.2.2.2.2 = G.2.2.2.2 + n)
    (hP : va_P D az_cl (az_w cy ad G ++ ws) H1) (hD : va_D A (az_w cy ad G ++ ws)) (hS : va_S A H0 H1 locs) (hst : ∀ v ∈ st', az_ok G'.1.length v) :
    az_at D cy A H0 ad0 n0 c0 s0 ad' L ls st' G' H1 locs (cells + k) (slots + n) := by
  obtain ⟨⟨hL, -⟩, hwf, -, -, -, hag, hn0, hn1, hn2, hn3⟩ := hR
  have hw := az_w_apps (ad := ad) (ad' := ad') (cy := cy) hwf h1 hI hJ had hws
  rw [hw] at hP hD
  have hlen : G'.1.length = G.1.length + sl.length := by rw [h1, List.length_append]
  refine ⟨⟨az_Lr_ad (by omega) had hsc hL, hst⟩, ?_, hP, hD, hS, ⟨fun i hi => ?_, hsc.trans hag.2⟩, by omega, by omega, by omega, by omega⟩
  · rw [h1]
    exact az_wf_app hwf hr
  · rw [had i (Nat.lt_of_lt_of_le hi hn0)]
    exact hag.1 i hi
section
variable {p : Program} {l : Launch} {e : Env} {R : Room} {s : State} {m : MethodId} {args : Array Value} {below : List Frame} {meth : Method} {c : Code} {Q : State → Prop}
variable {xs : az_X} {k pc : Nat} {D : va_G} {cy : Nat → ClassId} {A : Nat → Prop} {ad0 : Nat → Nat} {n0 c0 s0 : Nat} {L : az_Ls} {st : List Value} {G : az_G} {q : az_Nx}
theorem az_o_new {x : Nat} (hK : az_K p s m args meth c xs k D cy A ad0) (hd : decode (az_code k) pc = .ok (.new x, 3)) (hs : az_new k x (pc + 3) L st G = some q) (hB : q.2.2.2.2.2.2.1 ≤ c0 + R.cells ∧ q.2.2.2.2.2.2.2 ≤ s0 + R.slots)
    (kk : az_kk p l e R s m args below meth c Q D cy A ad0 n0 c0 s0 q) : az_kk p l e R s m args below meth c Q D cy A ad0 n0 c0 s0 (pc, L, st, G) := by
  intro ad ls H locs cells slots hR
  obtain ⟨hx, hb, hown, hml, hts, hV, hA, -, -, -⟩ := hK
  obtain ⟨⟨hL, hst⟩, hwf, hP, hD, hS, hag, hn0, hn1, hn2, hn3⟩ := id hR
  unfold az_new at hs
  split at hs
  · rename_i ci N hlk
    split at hs
    · rename_i hlt
      cases hs
      obtain ⟨hw, hc8⟩ := az_lo _ _ hlk
      have hi := az_ins ci hc8
      have hn1 : cells + c0 = G.2.2.2.1 := hn1
      have hn2 : slots + s0 = G.2.2.2.2 := hn2
      have hB1 : G.2.2.2.1 + 1 ≤ c0 + R.cells := hB.1
      have hB2 : G.2.2.2.2 + az_N ci ≤ s0 + R.slots := hB.2
      have hdl : (az_df ci).length = az_N ci := by simp [az_df]
      refine va_new (T := az_T ci) (N := az_N ci) (ci := ci) (C := az_R ci) (fs := (List.range (az_df ci).length).map fun j => az_fv ad 0 ((az_df ci).getD j none)) hx hb hts (az_uin ci hc8) (az_ty ci) (az_tyk ci hc8) hown (hts _ hw) (hts _ hi.1) (hts _ hi.2) hV hP hD hS hA (az_clg ci hc8) (fun j hj => ?_) (by omega) (by omega) hd (fun q9 H1 hP1 hD1 hS1 => ?_)
      · unfold vp_V
        rw [List.getD, List.getElem?_map, List.getElem?_range (by rw [hdl]; exact hj)]
        have hg : (az_df ci).getD j none = if az_ty ci j = .int then none else some none := by
          unfold az_df
          rw [List.getD, List.getElem?_map, List.getElem?_range hj]
          rfl
        simp only [Option.map_some, Option.getD_some]
        rw [hg]
        rcases az_tyc ci hc8 j hj with h | h
        · rw [if_pos h, h]
          rfl
        · rw [if_neg (fun q => by rw [q] at h; cases h), az_dfr h]
          rfl
      · have had : ∀ b : Nat, b < G.1.length → va_up ad G.1.length q9 b = ad b := fun b hb2 => va_up_ne _ _ (by omega)
        have hsc : va_up ad G.1.length q9 az_scr = ad az_scr := va_up_ne _ _ (by unfold az_scr; omega)
        have hself : va_up ad G.1.length q9 G.1.length = q9 := va_up_self _ _ _
        have hk := kk (va_up ad G.1.length q9) ls H1 locs (cells + 1) (slots + az_N ci) (az_at_app (sl := [(0, ci, az_df ci)]) (ws := [(q9, .inr (ci, (List.range (az_df ci).length).map fun j => az_fv ad 0 ((az_df ci).getD j none)))]) (ad' := va_up ad G.1.length q9) hR hlt (by simp) rfl (fun b hb2 => az_clr_lt hb2) (fun _ _ => rfl) had hsc ?_ ?_ rfl rfl hP1 hD1 hS1 ?_)
        · have e1 : List.map (az_c (va_up ad G.1.length q9)) (.ref G.1.length :: st) = .ref q9 :: st.map (az_c ad) := by
            rw [List.map_cons, az_map_ad had hsc hst]
            show Value.ref (va_up ad G.1.length q9 G.1.length) :: _ = _
            rw [hself]
          have hk' : W p l e R s m args below meth c H1 locs (cells + 1) (slots + az_N ci) Q (F0 m (pc + 3) ls (List.map (az_c (va_up ad G.1.length q9)) (.ref G.1.length :: st))) := hk
          rw [e1] at hk'
          exact hk'
        · show _ = [_]
          simp only [Nat.add_zero, hself]
          refine congrArg (fun z => [(q9, z)]) ?_
          show _ = az_E cy (va_up ad G.1.length q9) (az_clr G.2.1 G.1.length) G.2.2.1 G.1.length (0, ci, az_df ci)
          unfold az_E
          rw [az_clr_ge (Nat.le_refl _)]
          show Sum.inr (ci, _) = Sum.inr (ci, _)
          refine congrArg (fun z => Sum.inr (ci, z)) (List.map_congr_left fun j _ => ?_)
          have hg : (az_df ci).getD j none = none ∨ (az_df ci).getD j none = some none := by
            cases h : (az_df ci)[j]? with
            | none => exact Or.inl (by simp [List.getD, h])
            | some o =>
              have hm := List.mem_of_getElem? h
              cases o with
              | none => exact Or.inl (by simp [List.getD, h])
              | some r =>
                cases r with
                | none => exact Or.inr (by simp [List.getD, h])
                | some r => exact absurd hm (az_df_no ci r)
          rcases hg with h | h <;> rw [h] <;> rfl
        · intro sh hsh r hr
          rw [List.mem_singleton.mp hsh] at hr
          exact absurd hr (az_df_no ci r)
        · show ∀ v ∈ Value.ref G.1.length :: st, az_ok (G.1 ++ [(0, ci, az_df ci)]).length v
          rw [List.length_append]
          exact az_cn1 (Or.inl (Nat.lt_succ_self _)) (fun v hv => az_ok_mono (Nat.le_add_right _ _) (hst v hv))
    · cases hs
  · cases hs
theorem az_cls_eq {cA : ClassId} {ty : FieldType} {t : Nat} {cl : List vw_C} (hty : ∀ C, ty ≠ .object C) (hV : va_K D cl (az_tl cy) s) (ht : (az_tl cy)[t]? = some (cy t, ty)) (h : va_RA s cA ty) : cA = cy t := by
  have h2 := (hV.2 t _ ht).2
  cases ty <;> first | exact absurd rfl (hty _) | exact Option.some.inj (h.symm.trans h2)
theorem az_o_nwa {at' : ArrayType} {ty : FieldType} {kd : Nat} {f0 : Nat → vp_A} (hK : az_K p s m args meth c xs k D cy A ad0) (hd : decode (az_code k) pc = .ok (.newarray at', 2)) (hs : az_nwa kd (pc + 2) L st G = some q) (hB : q.2.2.2.2.2.2.1 ≤ c0 + R.cells ∧ q.2.2.2.2.2.2.2 ≤ s0 + R.slots)
    (hT : newarray.typeOf at' = ty) (hty : ∀ C, ty ≠ .object C) (t : Nat) (ht : (az_tl cy)[t]? = some (cy t, ty)) (hw : Jvm.Cond.arrayClass (newarray.typeOf at') ∈ az_gw) (hf : ∀ (N : Nat) (cA : ClassId), vp_cell cA (f0 N) = arrV cA N (fun _ => defaultValue ty)) (hbytes : componentBytes ty ≤ 8)
    (hE : ∀ (ad : Nat → Nat) (I : Nat → Nat → Int32) (J : Nat → Nat → Int64) (n N : Nat), az_E cy ad (az_clr I n) (az_clrJ J n) n (kd, N, []) = .inl (cy t, f0 N))
    (kk : az_kk p l e R s m args below meth c Q D cy A ad0 n0 c0 s0 q) : az_kk p l e R s m args below meth c Q D cy A ad0 n0 c0 s0 (pc, L, st, G) := by
  intro ad ls H locs cells slots hR
  obtain ⟨hx, hb, hown, hml, hts, hV, hA, -, -, -⟩ := hK
  obtain ⟨⟨hL, hst⟩, hwf, hP, hD, hS, hag, hn0, hn1, hn2, hn3⟩ := id hR
  unfold az_nwa at hs
  split at hs
  · rename_i n r
    split at hs
    · rename_i hcond
      obtain ⟨h0, hle, hlt⟩ := hcond
      cases hs
      have hn1 : cells + c0 = G.2.2.2.1 := hn1
      have hn2 : slots + s0 = G.2.2.2.2 := hn2
      have hB1 : G.2.2.2.1 + 1 ≤ c0 + R.cells := hB.1
      have hB2 : G.2.2.2.2 + n.toNatClampNeg ≤ s0 + R.slots := hB.2
      have hby : n.toNatClampNeg * componentBytes ty ≤ 536870912 := Nat.le_trans (Nat.mul_le_mul hle hbytes) (by decide)
      refine va_newa (a0 := f0 n.toNatClampNeg) hx hb (hts _ hw) hT hV hP hD hS hA (fun cA => hf _ cA) h0 rfl hby (by omega) (by omega) hd (fun q9 cA H1 hK1 hP1 hD1 hS1 => ?_)
      have hcA : cA = cy t := az_cls_eq hty hV ht (hK1.2 4 _ rfl).2
      subst hcA
      have had : ∀ b : Nat, b < G.1.length → va_up ad G.1.length q9 b = ad b := fun b hb2 => va_up_ne _ _ (by omega)
      have hsc : va_up ad G.1.length q9 az_scr = ad az_scr := va_up_ne _ _ (by unfold az_scr; omega)
      have hself : va_up ad G.1.length q9 G.1.length = q9 := va_up_self _ _ _
      have hk := kk (va_up ad G.1.length q9) ls H1 locs (cells + 1) (slots + n.toNatClampNeg) (az_at_app (sl := [(kd, n.toNatClampNeg, [])]) (ws := [(q9, .inl (cy t, f0 n.toNatClampNeg))]) (ad' := va_up ad G.1.length q9) hR hlt (by simp) rfl (fun b hb2 => az_clr_lt hb2) (fun b hb2 => az_clrJ_lt hb2) had hsc ?_ ?_ rfl rfl hP1 hD1 hS1 ?_)
      · have e1 : List.map (az_c (va_up ad G.1.length q9)) (.ref G.1.length :: r) = .ref q9 :: r.map (az_c ad) := by
          rw [List.map_cons, az_map_ad had hsc (az_tl1 hst)]
          show Value.ref (va_up ad G.1.length q9 G.1.length) :: _ = _
          rw [hself]
        have hk' : W p l e R s m args below meth c H1 locs (cells + 1) (slots + n.toNatClampNeg) Q (F0 m (pc + 2) ls (List.map (az_c (va_up ad G.1.length q9)) (.ref G.1.length :: r))) := hk
        rw [e1] at hk'
        exact hk'
      · show _ = [_]
        simp only [Nat.add_zero, hself]
        refine congrArg (fun z => [(q9, z)]) ?_
        exact (hE _ _ _ _ _).symm
      · intro sh hsh r hr
        rw [List.mem_singleton.mp hsh] at hr
        cases hr
      · show ∀ v ∈ Value.ref G.1.length :: r, az_ok (G.1 ++ [(kd, n.toNatClampNeg, [])]).length v
        rw [List.length_append]
        exact az_cn1 (Or.inl (Nat.lt_succ_self _)) (fun v hv => az_ok_mono (Nat.le_add_right _ _) (az_tl1 hst v hv))
    · cases hs
  · cases hs
end
