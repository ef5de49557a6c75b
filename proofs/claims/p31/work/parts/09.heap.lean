/-! the steps that read or write cells -/
theorem az_up_ne {I : Nat → Nat → Int32} {a b k : Nat} {x : Int32} (h : b ≠ a) : az_up I a k x b = I b := by
  funext j
  simp [az_up, h]
theorem az_upJ_ne {J : Nat → Nat → Int64} {a b k : Nat} {x : Int64} (h : b ≠ a) : az_upJ J a k x b = J b := by
  funext j
  simp [az_upJ, h]
theorem az_up_self {I : Nat → Nat → Int32} {a k : Nat} {x : Int32} : az_up I a k x a = upd (I a) k x := by
  funext j
  simp [az_up, upd]
theorem az_upJ_self {J : Nat → Nat → Int64} {a k : Nat} {x : Int64} : az_upJ J a k x a = vp_updL (J a) k x := by
  funext j
  simp [az_upJ, vp_updL]
theorem az_E_I {cy : Nat → ClassId} {ad : Nat → Nat} {I I' : Nat → Nat → Int32} {J J' : Nat → Nat → Int64} {a : Nat} {sh : az_Shp} (h : I' a = I a) (hJ : J' a = J a) : az_E cy ad I' J' a sh = az_E cy ad I J a sh := by
  unfold az_E
  rw [h, hJ]
theorem az_fs_get {ad : Nat → Nat} {f : Nat → Int32} {sl : List (Option (Option Nat))} {j : Nat} {o : Option (Option Nat)} (h : sl[j]? = some o) : ((List.range sl.length).map fun j => az_fv ad (f j) (sl.getD j none))[j]? = some (az_fv ad (f j) o) := by
  rw [List.getElem?_map, List.getElem?_range (List.getElem?_eq_some_iff.mp h).1]
  simp [List.getD, h]
theorem az_fs_seti {ad : Nat → Nat} {f : Nat → Int32} {sl : List (Option (Option Nat))} {j : Nat} {v : Int32} (h : sl[j]? = some none) : ((List.range sl.length).map fun j => az_fv ad (f j) (sl.getD j none)).set j (.int v) = (List.range sl.length).map fun i => az_fv ad (upd f j v i) (sl.getD i none) := by
  have hl := (List.getElem?_eq_some_iff.mp h).1
  apply List.ext_getElem?
  intro i
  by_cases hij : j = i
  · subst hij
    rw [List.getElem?_set_self (by simpa using hl), List.getElem?_map, List.getElem?_range hl]
    simp [List.getD, h, az_fv, upd]
  · rw [List.getElem?_set_ne hij, List.getElem?_map, List.getElem?_map]
    by_cases hi : i < sl.length
    · rw [List.getElem?_range hi]
      simp [upd, Ne.symm hij]
    · rw [List.getElem?_eq_none (by rw [List.length_range]; omega)]
      rfl
theorem az_fs_setr {ad : Nat → Nat} {f : Nat → Int32} {sl : List (Option (Option Nat))} {j r : Nat} {o : Option Nat} (h : sl[j]? = some (some o)) : ((List.range sl.length).map fun j => az_fv ad (f j) (sl.getD j none)).set j (.ref (ad r)) = (List.range (sl.set j (some (some r))).length).map fun i => az_fv ad (f i) ((sl.set j (some (some r))).getD i none) := by
  have hl := (List.getElem?_eq_some_iff.mp h).1
  apply List.ext_getElem?
  intro i
  rw [List.length_set]
  by_cases hij : j = i
  · subst hij
    rw [List.getElem?_set_self (by simpa using hl), List.getElem?_map, List.getElem?_range hl]
    simp [List.getD, List.getElem?_set_self hl, az_fv, va_rf]
  · rw [List.getElem?_set_ne hij, List.getElem?_map, List.getElem?_map]
    by_cases hi : i < sl.length
    · rw [List.getElem?_range hi]
      simp [List.getD, List.getElem?_set_ne hij]
    · rw [List.getElem?_eq_none (by rw [List.length_range]; omega)]
      rfl
theorem az_nar_ref {ty : FieldType} {a : Nat} (h : ty.isReference = true) : narrow ty (.ref a) = .ref a ∧ fits ty (.ref a) = true := by
  cases ty <;> first | (cases h; done) | exact ⟨rfl, rfl⟩
theorem az_wr_fin {k ci j : Nat} (h : az_wr k ci j = true) : (az_T ci j).2.2.2 = false ∨ ((az_T ci j).2.2.2 = true ∧ (az_y k).name = "<init>" ∧ (az_T ci j).1 = az_R (az_own k)) := by
  unfold az_wr at h
  simp only [Bool.or_eq_true, beq_iff_eq, Bool.and_eq_true] at h
  rcases h with h | h
  · exact Or.inl h
  · cases hf : (az_T ci j).2.2.2 with
    | false => exact Or.inl rfl
    | true => exact Or.inr ⟨rfl, h.1, h.2⟩
section
variable {p : Program} {l : Launch} {e : Env} {R : Room} {s : State} {m : MethodId} {args : Array Value} {below : List Frame} {meth : Method} {c : Code} {Q : State → Prop}
variable {xs : az_X} {k pc : Nat} {D : va_G} {cy : Nat → ClassId} {A : Nat → Prop} {ad0 : Nat → Nat} {n0 c0 s0 : Nat} {L : az_Ls} {st : List Value} {G : az_G} {q : az_Nx}
theorem az_o_gf {x : Nat} (hK : az_K p s m args meth c xs k D cy A ad0) (hd : decode (az_code k) pc = .ok (.getfield x, 3)) (hs : az_gf k x (pc + 3) L st G = some q)
    (kk : az_kk p l e R s m args below meth c Q D cy A ad0 n0 c0 s0 q) : az_kk p l e R s m args below meth c Q D cy A ad0 n0 c0 s0 (pc, L, st, G) := by
  intro ad ls H locs cells slots hR
  obtain ⟨hx, hb, hown, hml, hts, hV, -, -, -, -⟩ := hK
  unfold az_gf at hs
  split at hs
  · rename_i ci j a r hlk
    split at hs
    · rename_i v hv
      cases hs
      obtain ⟨hw, hc8, hjN⟩ := az_lo _ _ hlk
      have hP := hR.2.2.1
      have hwf := hR.2.1
      unfold az_gfl at hv
      split at hv
      · rename_i cc sl hS
        split at hv
        · rename_i hcc
          subst hcc
          have he := az_w_get (cy := cy) (ad := ad) hS
          have row := fun (v : Value) hv2 => va_get (l := l) (e := e) (R := R) (below := below) (meth := meth) (locs := hR.2.2.2.2.1.2.2 |> fun _ => locs) (cells := cells) (slots := slots) (Q := Q) (D := D) (pc := pc) (ls := ls) (rest := r.map (az_c ad)) hx hb hts (az_uin cc hc8) hown hV hP a he (az_clg cc hc8) j hjN (hts _ hw) (fun _ h9 => h9) (v := v) hv2 hd
          split at hv
          · rename_i hj
            cases hv
            exact row _ (az_fs_get hj) (kk ad ls H locs cells slots (hR.st (az_cn1 trivial (az_tl1 hR.1.2))))
          · rename_i r9 hj
            cases hv
            have hok : az_ok G.1.length (.ref r9) := Or.inl (hwf _ (List.mem_of_getElem? hS) _ (List.mem_of_getElem? hj))
            exact row _ (az_fs_get hj) (kk ad ls H locs cells slots (hR.st (az_cn1 hok (az_tl1 hR.1.2))))
          · cases hv
        · cases hv
      · cases hv
    · cases hs
  · cases hs
theorem az_o_pf {x : Nat} (hK : az_K p s m args meth c xs k D cy A ad0) (hd : decode (az_code k) pc = .ok (.putfield x, 3)) (hs : az_pf k x (pc + 3) L st G = some q)
    (kk : az_kk p l e R s m args below meth c Q D cy A ad0 n0 c0 s0 q) : az_kk p l e R s m args below meth c Q D cy A ad0 n0 c0 s0 (pc, L, st, G) := by
  intro ad ls H locs cells slots hR
  obtain ⟨hx, hb, hown, hml, hts, hV, -, hini, -, -⟩ := hK
  obtain ⟨⟨hL, hst⟩, hwf, hP, hD, hS, hag, hn⟩ := id hR
  have row : ∀ (ci j a : Nat) (fs : List Value) (ty : FieldType) (v : Value) (rest : List Value), az_lk (az_own k) x = some (0, ci, j) → (az_w cy ad G)[a]? = some (ad a, .inr (ci, fs)) → az_wr k ci j = true → az_ty ci j = ty → narrow ty v = v → fits ty v = true → j < fs.length →
      (∀ (H1 : Heap) (locs1 : List Loc), va_P D az_cl ((az_w cy ad G).set a (ad a, .inr (ci, fs.set j v))) H1 → va_D A ((az_w cy ad G).set a (ad a, .inr (ci, fs.set j v))) → va_S A s.heap H1 locs1 → W p l e R s m args below meth c H1 locs1 cells slots Q (F0 m (pc + 3) ls rest)) → W p l e R s m args below meth c H locs cells slots Q (F0 m pc ls (v :: .ref (ad a) :: rest)) := by
    intro ci j a fs ty v rest hlk he hwr hty hnar hfit hlen k9
    obtain ⟨hw, hc8, hjN⟩ := az_lo _ _ hlk
    rcases az_wr_fin hwr with hf | ⟨hf, hi, hdecl⟩
    · exact va_put (ty := ty) hx hb hts (az_uin ci hc8) (az_ty ci) (az_tyk ci hc8) (az_nmk ci hc8) hown hV hP hD hS a he (az_clg ci hc8) j hjN (hts _ hw) (fun _ h9 => h9) hf (by rw [← hty]; exact az_tyk ci hc8 j hjN) hnar hfit hlen hd k9
    · exact va_putF (ty := ty) hx hb hts (az_uin ci hc8) (az_ty ci) (az_tyk ci hc8) (az_nmk ci hc8) hown hV hP hD hS a he (az_clg ci hc8) j hjN (hts _ hw) (fun _ h9 => h9) hf (hini hi) hdecl (by rw [← hty]; exact az_tyk ci hc8 j hjN) hnar hfit hlen hd k9
  unfold az_pf at hs
  split at hs
  · rename_i ci j v a r hlk
    split at hs
    · rename_i hpf
      cases hs
      unfold az_pfi at hpf
      split at hpf
      · rename_i cc sl hSa
        simp only [Bool.and_eq_true, beq_iff_eq, decide_eq_true_eq] at hpf
        obtain ⟨⟨⟨hcc, hwr⟩, hty⟩, hsl⟩ := hpf
        subst hcc
        have hj : sl[j]? = some none := by
          split at hsl
          · assumption
          · cases hsl
        have hset : (az_w cy ad G).set a (ad a, .inr (cc, (((List.range sl.length).map fun j => az_fv ad (G.2.1 a j) (sl.getD j none))).set j (.int v))) = az_w cy ad (G.1, az_up G.2.1 a j v, G.2.2) := by
          refine az_w_set rfl (fun b hb => az_E_I (az_up_ne hb) rfl) ?_
          show _ = az_E cy ad (az_up G.2.1 a j v) G.2.2.1 a (G.1.getD a (0, 0, []))
          have hg : G.1.getD a (0, 0, []) = (0, cc, sl) := by simp [List.getD, hSa]
          rw [hg, az_fs_seti hj]
          unfold az_E
          rw [az_up_self]
          rfl
        refine row cc j a _ .int (.int v) _ hlk (az_w_get hSa) hwr hty rfl rfl (by simpa using (List.getElem?_eq_some_iff.mp hj).1) (fun H1 locs1 hP1 hD1 hS1 => ?_)
        rw [hset] at hP1 hD1
        exact kk ad ls H1 locs1 cells slots ⟨⟨hL, az_tl1 (az_tl1 hst)⟩, hwf, hP1, hD1, hS1, hag, hn⟩
      · cases hpf
    · cases hs
  · rename_i ci j v a r hlk
    split at hs
    · rename_i S' hpf
      cases hs
      unfold az_pfr at hpf
      split at hpf
      · rename_i cc sl hSa
        split at hpf
        · rename_i hcond
          obtain ⟨hcc, hwr, href, hlt⟩ := hcond
          subst hcc
          split at hpf
          · rename_i o hj
            cases hpf
            have hal : a < G.1.length := (List.getElem?_eq_some_iff.mp hSa).1
            have hset : (az_w cy ad G).set a (ad a, .inr (cc, (((List.range sl.length).map fun j => az_fv ad (G.2.1 a j) (sl.getD j none))).set j (.ref (ad v)))) = az_w cy ad (G.1.set a (0, cc, sl.set j (some (some v))), G.2) := by
              refine az_w_set (by simp) (fun b hb => ?_) ?_
              · simp [List.getD, List.getElem?_set_ne (Ne.symm hb)]
              · have hg : (G.1.set a (0, cc, sl.set j (some (some v)))).getD a (0, 0, []) = (0, cc, sl.set j (some (some v))) := by simp [List.getD, List.getElem?_set_self hal]
                rw [hg, az_fs_setr hj]
                rfl
            have hnr := az_nar_ref (a := ad v) href
            refine row cc j a _ _ (.ref (ad v)) _ hlk (az_w_get hSa) hwr rfl hnr.1 hnr.2 (by simpa using (List.getElem?_eq_some_iff.mp hj).1) (fun H1 locs1 hP1 hD1 hS1 => ?_)
            rw [hset] at hP1 hD1
            refine kk ad ls H1 locs1 cells slots ⟨⟨?_, ?_⟩, ?_, hP1, hD1, hS1, hag, ?_⟩
            · show az_Lr ad (G.1.set a (0, cc, sl.set j (some (some v)))).length L ls
              rw [List.length_set]
              exact hL
            · show ∀ w ∈ r, az_ok (G.1.set a (0, cc, sl.set j (some (some v)))).length w
              rw [List.length_set]
              exact az_tl1 (az_tl1 hst)
            · intro sh hsh r9 hr9
              show r9 < (G.1.set a (0, cc, sl.set j (some (some v)))).length
              rw [List.length_set]
              rcases List.mem_or_eq_of_mem_set hsh with h | h
              · exact hwf sh h r9 hr9
              · subst h
                rcases List.mem_or_eq_of_mem_set hr9 with h | h
                · exact hwf _ (List.mem_of_getElem? hSa) r9 h
                · cases h
                  exact hlt
            · show n0 ≤ (G.1.set a (0, cc, sl.set j (some (some v)))).length ∧ _ ∧ _ ∧ (G.1.set a (0, cc, sl.set j (some (some v)))).length ≤ _
              rw [List.length_set]
              exact hn
          · cases hpf
        · cases hpf
      · cases hpf
    · cases hs
  · cases hs
theorem az_isA_of {S : List az_Shp} {kd a : Nat} {i : Int32} (h : az_isA S kd a i = true) : ∃ n sl, S[a]? = some (kd, n, sl) ∧ vp_in i n := by
  unfold az_isA at h
  split at h
  · rename_i d n sl hS
    simp only [Bool.and_eq_true, beq_iff_eq] at h
    obtain ⟨h1, h2⟩ := h
    subst h1
    exact ⟨n, sl, hS, az_in_iff.mp h2⟩
  · cases h
theorem az_o_ial (hK : az_K p s m args meth c xs k D cy A ad0) (hd : decode (az_code k) pc = .ok (.iaload, 1)) (hs : az_ial xs 1 k (pc + 1) L st G = some q)
    (kk : az_kk p l e R s m args below meth c Q D cy A ad0 n0 c0 s0 q) : az_kk p l e R s m args below meth c Q D cy A ad0 n0 c0 s0 (pc, L, st, G) := by
  intro ad ls H locs cells slots hR
  obtain ⟨hx, hb, hown, hml, hts, hV, -, hini, hX, -⟩ := hK
  obtain ⟨⟨hL, hst⟩, hwf, hP, hD, hS, hag, hn⟩ := id hR
  unfold az_ial at hs
  split at hs
  · rename_i i a r
    split at hs
    · rename_i hmain
      split at hs
      · rename_i hcond
        cases hs
        obtain ⟨h1, h2, -⟩ := hcond
        subst h1
        obtain ⟨x1, x2, x3⟩ := hX
        show W p l e R s m args below meth c H locs cells slots Q (F0 m pc ls (.int i :: .ref (ad az_scr) :: r.map (az_c ad)))
        rw [hag.2]
        exact va_sld hx hb x1 x2 x3 hS (az_in_iff.mp h2) hd (kk ad ls H locs cells slots (hR.st (az_cn1 trivial (az_tl1 (az_tl1 hst)))))
      · cases hs
    · split at hs
      · rename_i hA
        cases hs
        obtain ⟨n, sl, hSa, hin⟩ := az_isA_of hA
        exact va_iald hx hb hV hP a 0 (az_w_get hSa) rfl hin hd (kk ad ls H locs cells slots (hR.st (az_cn1 trivial (az_tl1 (az_tl1 hst)))))
      · cases hs
  · cases hs
theorem az_o_bal (hK : az_K p s m args meth c xs k D cy A ad0) (hd : decode (az_code k) pc = .ok (.baload, 1)) (hs : az_ial xs 2 k (pc + 1) L st G = some q)
    (kk : az_kk p l e R s m args below meth c Q D cy A ad0 n0 c0 s0 q) : az_kk p l e R s m args below meth c Q D cy A ad0 n0 c0 s0 (pc, L, st, G) := by
  intro ad ls H locs cells slots hR
  obtain ⟨hx, hb, hown, hml, hts, hV, -, hini, hX, -⟩ := hK
  obtain ⟨⟨hL, hst⟩, hwf, hP, hD, hS, hag, hn⟩ := id hR
  unfold az_ial at hs
  split at hs
  · rename_i i a r
    split at hs
    · split at hs
      · rename_i hcond
        exact absurd hcond.2.2 (by decide)
      · cases hs
    · split at hs
      · rename_i hA
        cases hs
        obtain ⟨n, sl, hSa, hin⟩ := az_isA_of hA
        exact va_zald hx hb hV hP a 1 (az_w_get hSa) rfl hin hd (kk ad ls H locs cells slots (hR.st (az_cn1 trivial (az_tl1 (az_tl1 hst)))))
      · cases hs
  · cases hs
theorem az_o_aal (hK : az_K p s m args meth c xs k D cy A ad0) (hd : decode (az_code k) pc = .ok (.aaload, 1)) (hs : az_aal (pc + 1) L st G = some q)
    (kk : az_kk p l e R s m args below meth c Q D cy A ad0 n0 c0 s0 q) : az_kk p l e R s m args below meth c Q D cy A ad0 n0 c0 s0 (pc, L, st, G) := by
  intro ad ls H locs cells slots hR
  obtain ⟨hx, hb, hown, hml, hts, hV, -, hini, hX, -⟩ := hK
  obtain ⟨⟨hL, hst⟩, hwf, hP, hD, hS, hag, hn⟩ := id hR
  unfold az_aal at hs
  split at hs
  · rename_i i a r
    split at hs
    · rename_i n sl hSa
      split at hs
      · rename_i hin0
        have hin := az_in_iff.mp hin0
        split at hs
        · rename_i q9 hq9
          cases hs
          have hlt : i.toNatClampNeg < n := Nat.not_le.mp fun q => hin (Or.inr q)
          have hcell := hP a _ (az_w_get hSa)
          have hok : az_ok G.1.length (.ref q9) := Or.inl (hwf _ (List.mem_of_getElem? hSa) _ (List.mem_of_getElem? hq9))
          refine W.aald (v := .ref (ad q9)) (ty := .array .int) hx hb hcell ((hV.2 3 _ rfl).1 n (fun j => va_rf (((sl.getD j none).getD none).map ad))) rfl (fun q => by cases q) (by show ¬ (i < 0 ∨ (arrV _ _ _).slots.size ≤ _); rw [arrV_size]; exact hin) ?_ rfl rfl hd (kk ad ls H locs cells slots (hR.st (az_cn1 hok (az_tl1 (az_tl1 hst)))))
          show (arrV _ _ _).slots[_]? = _
          rw [arrV_read _ _ hlt]
          simp [List.getD, hq9, va_rf]
        · cases hs
      · cases hs
    · cases hs
  · cases hs
theorem az_o_iast (hK : az_K p s m args meth c xs k D cy A ad0) (hd : decode (az_code k) pc = .ok (.iastore, 1)) (hs : az_iast (pc + 1) L st G = some q)
    (kk : az_kk p l e R s m args below meth c Q D cy A ad0 n0 c0 s0 q) : az_kk p l e R s m args below meth c Q D cy A ad0 n0 c0 s0 (pc, L, st, G) := by
  intro ad ls H locs cells slots hR
  obtain ⟨hx, hb, hown, hml, hts, hV, -, hini, hX, -⟩ := hK
  obtain ⟨⟨hL, hst⟩, hwf, hP, hD, hS, hag, hn⟩ := id hR
  unfold az_iast at hs
  split at hs
  · split at hs
    · rename_i x i a r hA
      cases hs
      obtain ⟨n, sl, hSa, hin⟩ := az_isA_of hA
      have hset : (az_w cy ad G).set a (ad a, .inl (cy 0, n, .inl (upd (G.2.1 a) i.toNatClampNeg x))) = az_w cy ad (G.1, az_up G.2.1 a i.toNatClampNeg x, G.2.2) := by
        refine az_w_set rfl (fun b hb => az_E_I (az_up_ne hb) rfl) ?_
        have hg : G.1.getD a (0, 0, []) = (1, n, sl) := by simp [List.getD, hSa]
        show _ = az_E cy ad (az_up G.2.1 a i.toNatClampNeg x) G.2.2.1 a (G.1.getD a (0, 0, []))
        rw [hg]
        unfold az_E
        rw [az_up_self]
        rfl
      refine va_iast hx hb hV hP hD hS a 0 (az_w_get hSa) rfl hin hd (fun H1 locs1 hP1 hD1 hS1 => ?_)
      have hP1 : va_P D az_cl ((az_w cy ad G).set a (ad a, .inl (cy 0, n, .inl (upd (G.2.1 a) i.toNatClampNeg x)))) H1 := hP1
      have hD1 : va_D A ((az_w cy ad G).set a (ad a, .inl (cy 0, n, .inl (upd (G.2.1 a) i.toNatClampNeg x)))) := hD1
      rw [hset] at hP1 hD1
      exact kk ad ls H1 locs1 cells slots ⟨⟨hL, az_tl1 (az_tl1 (az_tl1 hst))⟩, hwf, hP1, hD1, hS1, hag, hn⟩
    · cases hs
  · cases hs
theorem az_o_bast (hK : az_K p s m args meth c xs k D cy A ad0) (hd : decode (az_code k) pc = .ok (.bastore, 1)) (hs : az_bast (pc + 1) L st G = some q)
    (kk : az_kk p l e R s m args below meth c Q D cy A ad0 n0 c0 s0 q) : az_kk p l e R s m args below meth c Q D cy A ad0 n0 c0 s0 (pc, L, st, G) := by
  intro ad ls H locs cells slots hR
  obtain ⟨hx, hb, hown, hml, hts, hV, -, hini, hX, -⟩ := hK
  obtain ⟨⟨hL, hst⟩, hwf, hP, hD, hS, hag, hn⟩ := id hR
  unfold az_bast at hs
  split at hs
  · split at hs
    · rename_i x i a r hA
      cases hs
      obtain ⟨n, sl, hSa, hin⟩ := az_isA_of hA
      have hset : (az_w cy ad G).set a (ad a, .inl (cy 1, n, .inl (upd (G.2.1 a) i.toNatClampNeg (vp_nar .boolean x)))) = az_w cy ad (G.1, az_up G.2.1 a i.toNatClampNeg (vp_nar .boolean x), G.2.2) := by
        refine az_w_set rfl (fun b hb => az_E_I (az_up_ne hb) rfl) ?_
        have hg : G.1.getD a (0, 0, []) = (2, n, sl) := by simp [List.getD, hSa]
        show _ = az_E cy ad (az_up G.2.1 a i.toNatClampNeg (vp_nar .boolean x)) G.2.2.1 a (G.1.getD a (0, 0, []))
        rw [hg]
        unfold az_E
        rw [az_up_self]
        rfl
      refine va_zast hx hb hV hP hD hS a 1 (az_w_get hSa) rfl hin hd (fun H1 locs1 hP1 hD1 hS1 => ?_)
      have hP1 : va_P D az_cl ((az_w cy ad G).set a (ad a, .inl (cy 1, n, .inl (upd (G.2.1 a) i.toNatClampNeg (vp_nar .boolean x))))) H1 := hP1
      have hD1 : va_D A ((az_w cy ad G).set a (ad a, .inl (cy 1, n, .inl (upd (G.2.1 a) i.toNatClampNeg (vp_nar .boolean x))))) := hD1
      rw [hset] at hP1 hD1
      exact kk ad ls H1 locs1 cells slots ⟨⟨hL, az_tl1 (az_tl1 (az_tl1 hst))⟩, hwf, hP1, hD1, hS1, hag, hn⟩
    · cases hs
  · cases hs
theorem az_o_len (hK : az_K p s m args meth c xs k D cy A ad0) (hd : decode (az_code k) pc = .ok (.arraylength, 1)) (hs : az_len xs k (pc + 1) L st G = some q)
    (kk : az_kk p l e R s m args below meth c Q D cy A ad0 n0 c0 s0 q) : az_kk p l e R s m args below meth c Q D cy A ad0 n0 c0 s0 (pc, L, st, G) := by
  intro ad ls H locs cells slots hR
  obtain ⟨hx, hb, hown, hml, hts, hV, -, hini, hX, -⟩ := hK
  obtain ⟨⟨hL, hst⟩, hwf, hP, hD, hS, hag, hn⟩ := id hR
  unfold az_len at hs
  split at hs
  · rename_i a r
    split at hs
    · rename_i hmain
      split at hs
      · rename_i h1
        cases hs
        subst h1
        obtain ⟨x1, x2, x3⟩ := hX
        show W p l e R s m args below meth c H locs cells slots Q (F0 m pc ls (.ref (ad az_scr) :: r.map (az_c ad)))
        rw [hag.2]
        exact va_slen hx hb x1 x2 x3 hS hd (kk ad ls H locs cells slots (hR.st (az_cn1 trivial (az_tl1 hst))))
      · cases hs
    · split at hs
      · rename_i n sl hSa
        cases hs
        exact va_alen hx hb hV hP a 0 (az_w_get hSa) rfl rfl hd (kk ad ls H locs cells slots (hR.st (az_cn1 trivial (az_tl1 hst))))
      · cases hs
  · cases hs
end
