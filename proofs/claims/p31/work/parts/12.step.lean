/-! the rest of the steps, and all of them together -/
section
variable {p : Program} {l : Launch} {e : Env} {R : Room} {s : State} {m : MethodId} {args : Array Value} {below : List Frame} {meth : Method} {c : Code} {Q : State → Prop}
variable {xs : az_X} {k pc : Nat} {D : va_G} {cy : Nat → ClassId} {A : Nat → Prop} {ad0 : Nat → Nat} {n0 c0 s0 : Nat} {L : az_Ls} {st : List Value} {G : az_G} {q : az_Nx}
theorem az_o_nwm {x : Nat} (hK : az_K p s m args meth c xs k D cy A ad0) (hd : decode (az_code k) pc = .ok (.multianewarray x 2, 4)) (hs : az_nwm k x (pc + 4) L st G = some q) (hB : q.2.2.2.2.2.2.1 ≤ c0 + R.cells ∧ q.2.2.2.2.2.2.2 ≤ s0 + R.slots)
    (kk : az_kk p l e R s m args below meth c Q D cy A ad0 n0 c0 s0 q) : az_kk p l e R s m args below meth c Q D cy A ad0 n0 c0 s0 (pc, L, st, G) := by
  intro ad ls H locs cells slots hR
  obtain ⟨hx, hb, hown, hml, hts, hV, hA, -, -, hover⟩ := hK
  obtain ⟨⟨hL, hst⟩, hwf, hP, hD, hS, hag, hn0, hn1, hn2, hn3⟩ := id hR
  unfold az_nwm at hs
  split at hs
  · rename_i b1 b2 m9 n9 r hlk
    split at hs
    · rename_i hcond
      obtain ⟨h0, h1, hle, hle2, hlt⟩ := hcond
      cases hs
      have hw0 : Jvm.Cond.classLink (az_R (az_own k)) x "[[I" ∈ az_gw := az_lo _ _ hlk
      have hw : Jvm.Cond.classLink (az_R (az_own k)) x ("[" ++ (FieldType.array .int).toString) ∈ az_gw := by rw [show "[" ++ (FieldType.array .int).toString = "[[I" by decide +kernel]; exact hw0
      have hn1 : cells + c0 = G.2.2.2.1 := hn1
      have hn2 : slots + s0 = G.2.2.2.2 := hn2
      have hB1 : G.2.2.2.1 + 1 + n9.toNatClampNeg ≤ c0 + R.cells := hB.1
      have hB2 : G.2.2.2.2 + n9.toNatClampNeg + n9.toNatClampNeg * m9.toNatClampNeg ≤ s0 + R.slots := hB.2
      generalize hN : n9.toNatClampNeg = N at *
      generalize hM : m9.toNatClampNeg = M at *
      have hcy : s.vm.findClass (FieldType.array .int).toString = some (cy 0) := (hV.2 0 _ rfl).2
      have hP' : va_P D az_cl (az_w cy ad G ++ va_pl [] (fun _ => .inr (0, []))) H := by rw [show az_w cy ad G ++ va_pl [] (fun _ => .inr (0, [])) = az_w cy ad G by simp [va_pl]]; exact hP
      have hD' : va_D A (az_w cy ad G ++ va_pl [] (fun _ => .inr (0, []))) := by rw [show az_w cy ad G ++ va_pl [] (fun _ => .inr (0, [])) = az_w cy ad G by simp [va_pl]]; exact hD
      refine va_mna (z := (M, .inl fun _ => 0)) hx hb hown (hts _ hw) hover (hts _ az_ac_int) hcy hV hP' hD' hS hA h0 h1 hN hM (by omega) (Nat.le_trans (Nat.mul_le_mul hle2 (show componentBytes .int ≤ 8 by decide)) (by decide)) (by omega) rfl rfl (by omega) (by omega) (fun c9 => ?_) hd (fun q9 r9 cA H1 hinj _ hK1 hP1 hD1 hS1 => ?_)
      · show ({ cls := c9, slots := Array.replicate M (.int 0), vm := .none } : Cell) = _
        rw [arrV_new]
        rfl
      · have hcA : cA = cy 3 := az_cls_eq (t := 3) (fun C h => by cases h) hV rfl (hK1.2 4 _ rfl).2
        subst hcA
        obtain ⟨ad', hadd⟩ : ∃ f : Nat → Nat, f = fun i => if i < G.1.length then ad i else if i = G.1.length then q9 else if i < G.1.length + 1 + N then r9 (i - (G.1.length + 1)) else ad i := ⟨_, rfl⟩
        have had : ∀ b : Nat, b < G.1.length → ad' b = ad b := fun b hb2 => by rw [hadd]; simp [hb2]
        have hsc : ad' az_scr = ad az_scr := by
          rw [hadd]
          have h9 : ¬ az_scr < G.1.length := by unfold az_scr; omega
          have h8 : ¬ az_scr = G.1.length := by unfold az_scr; omega
          have h7 : ¬ az_scr < G.1.length + 1 + N := by unfold az_scr; omega
          simp only [h9, h8, h7, if_false]
        have hself : ad' G.1.length = q9 := by rw [hadd]; simp
        have hrow : ∀ j : Nat, j < N → ad' (G.1.length + 1 + j) = r9 j := fun j hj => by
          rw [hadd]
          have h9 : ¬ G.1.length + 1 + j < G.1.length := by omega
          have h8 : ¬ G.1.length + 1 + j = G.1.length := by omega
          have h7 : G.1.length + 1 + j < G.1.length + 1 + N := by omega
          simp only [h9, h8, h7, if_false, if_true]
          rw [show G.1.length + 1 + j - (G.1.length + 1) = j by omega]
        obtain ⟨sl, hsl⟩ : ∃ z : List az_Shp, z = (4, N, (List.range N).map fun j => some (some (G.1.length + 1 + j))) :: List.replicate N (1, M, []) := ⟨_, rfl⟩
        have hsll : sl.length = N + 1 := by rw [hsl]; simp
        have hk := kk ad' ls H1 locs (cells + (1 + N)) (slots + (N + N * M)) (az_at_app (sl := sl) (ws := [(q9, .inl (cy 3, N, .inr (.inr (.inr (.inr fun i => if i < N then some (r9 i) else none)))))] ++ va_pl ([] ++ (List.range N).map r9) (vr_up (fun _ => .inr (0, [])) ((List.range N).map r9) (.inl (cy 0, M, .inl fun _ => 0)))) hR hlt (by rw [hsll]; omega) ?_ (fun b hb2 => az_clr_lt hb2) (fun b hb2 => rfl) had hsc ?_ ?_ ?_ ?_ ?_ ?_ hS1 ?_)
        · have e1 : List.map (az_c ad') (.ref G.1.length :: r) = .ref q9 :: r.map (az_c ad) := by
            rw [List.map_cons, az_map_ad had hsc (az_tl1 (az_tl1 hst))]
            show Value.ref (ad' G.1.length) :: _ = _
            rw [hself]
          have hk' : W p l e R s m args below meth c H1 locs (cells + (1 + N)) (slots + (N + N * M)) Q (F0 m (pc + 4) ls (List.map (az_c ad') (.ref G.1.length :: r))) := hk
          rw [e1] at hk'
          rw [Nat.add_assoc cells, Nat.add_assoc slots]
          exact hk'
        · show (G.1 ++ [_]) ++ _ = G.1 ++ sl
          rw [hsl, List.append_assoc]
          rfl
        · rw [hsll]
          apply List.ext_getElem?
          intro i
          cases i with
          | zero =>
            rw [List.getElem?_map, List.getElem?_range (by omega)]
            simp only [Option.map_some, Nat.add_zero, hself]
            show some _ = some _
            refine congrArg some (Prod.ext rfl ?_)
            show _ = az_E cy ad' _ _ _ (sl.getD 0 (0, 0, []))
            rw [hsl]
            show _ = Sum.inl (cy 3, N, Sum.inr (Sum.inr (Sum.inr (Sum.inr fun j => ((((List.range N).map fun j => some (some (G.1.length + 1 + j))).getD j none).getD none).map ad'))))
            refine congrArg (fun z => Sum.inl (cy 3, N, Sum.inr (Sum.inr (Sum.inr (Sum.inr z))))) (funext fun j => ?_)
            by_cases hj : j < N
            · simp [List.getD, List.getElem?_range, hj, hrow j hj]
            · simp [List.getD, hj]
          | succ i =>
            by_cases hi : i < N
            · rw [List.getElem?_map, List.getElem?_range (by omega)]
              show (va_pl ([] ++ (List.range N).map r9) _)[i]? = _
              unfold va_pl
              rw [List.nil_append, List.getElem?_map, List.getElem?_map, List.getElem?_range hi]
              simp only [Option.map_some]
              have hmem : r9 i ∈ (List.range N).map r9 := List.mem_map.mpr ⟨i, List.mem_range.mpr hi, rfl⟩
              rw [vr_up_in hmem, show G.1.length + (i + 1) = G.1.length + 1 + i by omega, hrow i hi]
              refine congrArg some (Prod.ext rfl ?_)
              have hg : sl.getD (i + 1) (0, 0, []) = (1, M, []) := by rw [hsl]; simp [List.getD, hi]
              rw [hg]
              show _ = az_E cy ad' (az_clr G.2.1 G.1.length) G.2.2.1 (G.1.length + 1 + i) (1, M, [])
              unfold az_E
              rw [az_clr_ge (by omega)]
              rfl
            · rw [List.getElem?_eq_none (by simp [va_pl]; omega), List.getElem?_eq_none (by simp; omega)]
        · intro sh hsh r8 hr8
          rw [hsll]
          rw [hsl] at hsh
          rcases List.mem_cons.mp hsh with h | h
          · rw [h] at hr8
            obtain ⟨j, hj, he⟩ := List.mem_map.mp hr8
            have := List.mem_range.mp hj
            cases he
            show G.1.length + 1 + j < G.1.length + (N + 1)
            omega
          · rw [List.eq_of_mem_replicate h] at hr8
            cases hr8
        · show G.2.2.2.1 + 1 + N = _
          omega
        · show G.2.2.2.2 + N + N * M = _
          omega
        · rw [← List.append_assoc]
          exact hP1
        · rw [← List.append_assoc]
          exact hD1
        · show ∀ v ∈ Value.ref G.1.length :: r, az_ok ((G.1 ++ [(4, N, (List.range N).map fun j => some (some (G.1.length + 1 + j)))]) ++ List.replicate N (1, M, [])).length v
          rw [List.append_assoc, List.length_append]
          refine az_cn1 (Or.inl ?_) (fun v hv => az_ok_mono (Nat.le_add_right _ _) (az_tl1 (az_tl1 hst) v hv))
          simp
    · cases hs
  · cases hs
theorem az_o_mth {x : Nat} (hRm : 1 ≤ R.frames ∧ 21 ≤ R.locals) (hRc : ∀ cells slots : Nat, cells + c0 = G.2.2.2.1 → slots + s0 = G.2.2.2.2 → cells ≤ R.cells ∧ slots ≤ R.slots) (hK : az_K p s m args meth c xs k D cy A ad0) (hlL : L.length = az_ml k) (hd : decode (az_code k) pc = .ok (.invokestatic x, 3)) (hs : az_mth k x (pc + 3) L st G = some q)
    (kk : az_kk p l e R s m args below meth c Q D cy A ad0 n0 c0 s0 q) : az_kk p l e R s m args below meth c Q D cy A ad0 n0 c0 s0 (pc, L, st, G) := by
  intro ad ls H locs cells slots hR
  obtain ⟨hx, hb, hown, hml, hts, hV, -, hini, hX, -⟩ := hK
  obtain ⟨⟨hL, hst⟩, hwf, hP, hD, hS, hag, hn⟩ := id hR
  have hsz : c.maxLocals = ls.size := by rw [hml, hL.1]; exact hlL.symm
  obtain ⟨hc1, hc2⟩ := hRc cells slots hn.2.1 hn.2.2.1
  unfold az_mth at hs
  split at hs
  · rename_i b1 b2 b a r hlk
    split at hs
    · rename_i hcat
      cases hs
      have hw := az_lo _ _ hlk
      exact va_mmax hx hb hsz hown (hts _ hw) (hts _ az_max.1) (hts _ az_max.2.1) (hts _ az_max.2.2) hRm.1 (by rw [az_cats]; omega) hc1 hc2 hd (kk ad ls H locs cells slots (hR.st (az_cn1 trivial (az_tl1 (az_tl1 hst)))))
    · cases hs
  · rename_i b1 b2 b a r hlk
    split at hs
    · rename_i hcat
      cases hs
      have hw := az_lo _ _ hlk
      exact va_mmin hx hb hsz hown (hts _ hw) (hts _ az_min.1) (hts _ az_min.2.1) (hts _ az_min.2.2) hRm.1 (by rw [az_cats]; omega) hc1 hc2 hd (kk ad ls H locs cells slots (hR.st (az_cn1 trivial (az_tl1 (az_tl1 hst)))))
    · cases hs
  · cases hs
theorem az_o_oin {x : Nat} (hRm : 1 ≤ R.frames ∧ 21 ≤ R.locals) (hK : az_K p s m args meth c xs k D cy A ad0) (hlL : L.length = az_ml k) (hd : decode (az_code k) pc = .ok (.invokespecial x, 3)) (hs : az_oin k x (pc + 3) L st G = some q)
    (kk : az_kk p l e R s m args below meth c Q D cy A ad0 n0 c0 s0 q) : az_kk p l e R s m args below meth c Q D cy A ad0 n0 c0 s0 (pc, L, st, G) := by
  intro ad ls H locs cells slots hR
  obtain ⟨hx, hb, hown, hml, hts, hV, -, hini, hX, -⟩ := hK
  obtain ⟨⟨hL, hst⟩, hwf, hP, hD, hS, hag, hn⟩ := id hR
  have hsz : ls.size = c.maxLocals := by rw [hml, hL.1]; exact hlL
  unfold az_oin at hs
  split at hs
  · rename_i b1 b2 a r hlk
    split at hs
    · rename_i hcat
      cases hs
      have hw := az_lo _ _ hlk
      refine W.objInit (a := ad a) (rest := r.map (az_c ad)) hx hb hown (hts _ hw) (hts _ az_obi.1) (hts _ az_obi.2) rfl hsz rfl hd hRm.1 ?_ (kk ad ls H locs cells slots (hR.st (az_tl1 hst)))
      rw [az_cats]
      show 0 + az_cat r + 12 ≤ R.locals
      omega
    · cases hs
  · cases hs
theorem az_o_tsw {d lo hi : Int} {offs : Array Int} {len : Nat} (hK : az_K p s m args meth c xs k D cy A ad0) (hd : decode (az_code k) pc = .ok (.tableswitch d lo hi offs, len)) (hs : az_tsw d lo hi offs pc L st G = some q)
    (kk : az_kk p l e R s m args below meth c Q D cy A ad0 n0 c0 s0 q) : az_kk p l e R s m args below meth c Q D cy A ad0 n0 c0 s0 (pc, L, st, G) := by
  intro ad ls H locs cells slots hR
  obtain ⟨hx, hb, -, -, -, -, -, -, -, -⟩ := hK
  have hst := hR.1.2
  unfold az_tsw at hs
  split at hs
  · rename_i x r
    split at hs
    · rename_i hout
      exact az_o_br hs (hR.st (az_tl1 hst)) (fun tgt ht w1 _ => lv_tableOut hx hb hd hout ht (w1 rfl)) kk
    · rename_i hin
      split at hs
      · rename_i off hoff
        exact az_o_br hs (hR.st (az_tl1 hst)) (fun tgt ht w1 _ => lv_tableIn hx hb hd (fun h => hin (Or.inl h)) (fun h => hin (Or.inr h)) hoff ht (w1 rfl)) kk
      · cases hs
  · cases hs
theorem az_kcm {o i : Nat} {v : Int32} (h : az_kc o i = some v) : Jvm.Cond.constant (az_R o) i v ∈ az_gw := by
  unfold az_kc at h
  obtain ⟨q, h1, h2⟩ := Option.map_eq_some_iff.mp h
  have h3 := List.mem_of_find?_eq_some h1
  have h4 := List.find?_some h1
  simp only [Bool.and_eq_true, beq_iff_eq] at h4
  have h5 := az_kcw q h3
  rw [h4.1, h4.2, h2] at h5
  exact h5
end
