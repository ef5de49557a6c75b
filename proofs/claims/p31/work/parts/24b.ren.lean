/-! the two objects' cells change places: a run of the one is a run of the other -/
def rn (a : Nat) : Nat := if a < 152 then a + 152 else if a < 304 then a - 152 else a
theorem rn_rn (a : Nat) : rn (rn a) = a := by
  unfold rn
  by_cases h1 : a < 152
  · rw [if_pos h1, if_neg (by omega), if_pos (by omega)]; omega
  · rw [if_neg h1]
    by_cases h2 : a < 304
    · rw [if_pos h2, if_pos (by omega)]; omega
    · rw [if_neg h2, if_neg h1, if_neg h2]
theorem rn_ge {a : Nat} (h : 304 ≤ a) : rn a = a := by
  unfold rn
  rw [if_neg (by omega), if_neg (by omega)]
theorem rn_lt {a n : Nat} (h : 304 ≤ n) : rn a < n ↔ a < n := by
  unfold rn
  by_cases h1 : a < 152
  · rw [if_pos h1]; omega
  · rw [if_neg h1]
    by_cases h2 : a < 304
    · rw [if_pos h2]; omega
    · rw [if_neg h2]
theorem rn_inj {a b : Nat} : rn a = rn b ↔ a = b := ⟨fun h => by rw [← rn_rn a, h, rn_rn], fun h => by rw [h]⟩
theorem rn_scr : rn az_scr = az_scr := rn_ge (by decide)
theorem rn_scr_iff {a : Nat} : rn a = az_scr ↔ a = az_scr := ⟨fun h => by rw [← rn_rn a, h, rn_scr], fun h => by rw [h, rn_scr]⟩
def rv : Value → Value
  | .ref a => .ref (rn a)
  | v => v
def rso (o : Option (Option Nat)) : Option (Option Nat) := o.map fun q => q.map rn
def rsh (sh : az_Shp) : az_Shp := (sh.1, sh.2.1, sh.2.2.map rso)
abbrev mL (L : az_Ls) : az_Ls := L.map (Option.map rv)
abbrev mS (st : List Value) : List Value := st.map rv
def gR (G G' : az_G) : Prop := 304 ≤ G.1.length ∧ G'.1.length = G.1.length ∧ (∀ a, G'.1[rn a]? = (G.1[a]?).map rsh) ∧ (∀ a, G'.2.1 (rn a) = G.2.1 a) ∧ (∀ a, G'.2.2.1 (rn a) = G.2.2.1 a) ∧ G'.2.2.2 = G.2.2.2
def nR (q q' : az_Nx) : Prop := q'.1 = q.1 ∧ q'.2.1 = mL q.2.1 ∧ q'.2.2.1 = mS q.2.2.1 ∧ gR q.2.2.2 q'.2.2.2
def oR (o o' : az_O) : Prop := o'.1 = o.1 ∧ o'.2.1 = o.2.1.map rv ∧ gR o.2.2 o'.2.2
theorem rv_cat (v : Value) : (rv v).category = v.category := by cases v <;> rfl
theorem mS_cat (st : List Value) : az_cat (mS st) = az_cat st := by
  unfold az_cat mS
  rw [List.map_map]
  congr 1
  exact List.map_congr_left fun v _ => rv_cat v
theorem gR_get {G G' : az_G} (h : gR G G') {a : Nat} {sh : az_Shp} (hs : G.1[a]? = some sh) : G'.1[rn a]? = some (rsh sh) := by
  rw [h.2.2.1 a, hs]; try rfl
theorem gR_none {G G' : az_G} (h : gR G G') {a : Nat} (hs : G.1[a]? = none) : G'.1[rn a]? = none := by
  rw [h.2.2.1 a, hs]; try rfl
section
variable {G G' : az_G} {L : az_Ls} {st : List Value} {nx pc k : Nat} {q : az_Nx}
theorem nR_of {st2 : List Value} {L2 : az_Ls} {nx2 : Nat} (hG : gR G G') : nR (nx2, L2, st2, G) (nx2, mL L2, mS st2, G') := ⟨rfl, rfl, rfl, hG⟩
theorem r_b2 {f : Int32 → Int32 → Int32} (hG : gR G G') (h : az_b2 f nx L st G = some q) : ∃ q', az_b2 f nx (mL L) (mS st) G' = some q' ∧ nR q q' := by
  unfold az_b2 at h
  split at h
  · cases h; exact ⟨_, rfl, nR_of hG⟩
  · cases h
theorem r_dv {f : Int32 → Int32 → Int32} (hG : gR G G') (h : az_dv f nx L st G = some q) : ∃ q', az_dv f nx (mL L) (mS st) G' = some q' ∧ nR q q' := by
  unfold az_dv at h
  split at h
  · split at h
    · cases h
    · rename_i y x r h0
      cases h
      refine ⟨_, ?_, nR_of hG⟩
      show (if y = 0 then none else some _) = _
      rw [if_neg h0]; try rfl
  · cases h
theorem mL_get {n : Nat} {o : Option Value} (h : L[n]? = some o) : (mL L)[n]? = some (o.map rv) := by
  rw [List.getElem?_map, h]; try rfl
theorem r_ild {n : Nat} (hG : gR G G') (h : az_ild n nx L st G = some q) : ∃ q', az_ild n nx (mL L) (mS st) G' = some q' ∧ nR q q' := by
  unfold az_ild at h
  split at h
  · rename_i x hx
    cases h
    refine ⟨_, ?_, nR_of hG⟩
    unfold az_ild
    rw [mL_get hx]; try rfl
  · cases h
theorem r_ald {n : Nat} (hG : gR G G') (h : az_ald n nx L st G = some q) : ∃ q', az_ald n nx (mL L) (mS st) G' = some q' ∧ nR q q' := by
  unfold az_ald at h
  split at h
  · rename_i x hx
    cases h
    refine ⟨_, ?_, nR_of hG⟩
    unfold az_ald
    rw [mL_get hx]; try rfl
  · cases h
theorem mL_set {n : Nat} {v : Option Value} : mL (L.set n v) = (mL L).set n (v.map rv) := by
  unfold mL
  rw [List.map_set]
theorem mL_len : (mL L).length = L.length := by simp
theorem r_ist {n : Nat} (hG : gR G G') (h : az_ist n nx L st G = some q) : ∃ q', az_ist n nx (mL L) (mS st) G' = some q' ∧ nR q q' := by
  unfold az_ist at h
  split at h
  · split at h
    · rename_i x r hn
      cases h
      refine ⟨_, ?_, nR_of hG⟩
      show (if n < (mL L).length then some _ else none) = _
      rw [mL_len, if_pos hn, mL_set]; try rfl
    · cases h
  · cases h
theorem r_ast {n : Nat} (hG : gR G G') (h : az_ast n nx L st G = some q) : ∃ q', az_ast n nx (mL L) (mS st) G' = some q' ∧ nR q q' := by
  unfold az_ast at h
  split at h
  · split at h
    · rename_i x r hn
      cases h
      refine ⟨_, ?_, nR_of hG⟩
      show (if n < (mL L).length then some _ else none) = _
      rw [mL_len, if_pos hn, mL_set]; try rfl
    · cases h
  · cases h
theorem r_inc {n : Nat} {v : Int} (hG : gR G G') (h : az_inc n v nx L st G = some q) : ∃ q', az_inc n v nx (mL L) (mS st) G' = some q' ∧ nR q q' := by
  unfold az_inc at h
  split at h
  · rename_i x hx
    cases h
    refine ⟨_, ?_, nR_of hG⟩
    unfold az_inc
    rw [mL_get hx, mL_set]; try rfl
  · cases h
theorem r_br {b : Bool} {off : Int} (hG : gR G G') (h : az_br b off pc nx L st G = some q) : ∃ q', az_br b off pc nx (mL L) (mS st) G' = some q' ∧ nR q q' := by
  unfold az_br at h ⊢
  split at h
  · rename_i h0
    rw [if_pos h0]
    split at h
    · rename_i hb
      cases h
      rw [if_pos hb]
      exact ⟨_, rfl, nR_of hG⟩
    · rename_i hb
      cases h
      rw [if_neg hb]
      exact ⟨_, rfl, nR_of hG⟩
  · cases h
theorem r_if1 {f : Int32 → Bool} {off : Int} (hG : gR G G') (h : az_if1 f off pc nx L st G = some q) : ∃ q', az_if1 f off pc nx (mL L) (mS st) G' = some q' ∧ nR q q' := by
  unfold az_if1 at h
  split at h
  · exact r_br hG h
  · cases h
theorem r_if2 {f : Int32 → Int32 → Bool} {off : Int} (hG : gR G G') (h : az_if2 f off pc nx L st G = some q) : ∃ q', az_if2 f off pc nx (mL L) (mS st) G' = some q' ∧ nR q q' := by
  unfold az_if2 at h
  split at h
  · exact r_br hG h
  · cases h
theorem r_tsw {d lo hi : Int} {offs : Array Int} (hG : gR G G') (h : az_tsw d lo hi offs pc L st G = some q) : ∃ q', az_tsw d lo hi offs pc (mL L) (mS st) G' = some q' ∧ nR q q' := by
  unfold az_tsw at h
  split at h
  · rename_i x r
    show ∃ q', (if x.toInt < lo ∨ hi < x.toInt then az_br true d pc 0 (mL L) (mS r) G' else _) = some q' ∧ nR q q'
    split at h
    · rename_i hc
      rw [if_pos hc]
      exact r_br hG h
    · rename_i hc
      rw [if_neg hc]
      split at h
      · rename_i off ho
        exact r_br hG h
      · cases h
  · cases h
theorem rsh_get {sl : List (Option (Option Nat))} {j : Nat} {o : Option (Option Nat)} (h : sl[j]? = some o) : (sl.map rso)[j]? = some (rso o) := by
  rw [List.getElem?_map, h]; try rfl
theorem r_gfl {a ci j : Nat} {v : Value} (hG : gR G G') (h : az_gfl G.1 G.2.1 a ci j = some v) : az_gfl G'.1 G'.2.1 (rn a) ci j = some (rv v) := by
  unfold az_gfl at h
  split at h
  · rename_i c sl hS
    have h1 := gR_get hG hS
    unfold az_gfl
    rw [h1]
    show (if c = ci then _ else none) = _
    split at h
    · rename_i hc
      rw [if_pos hc]
      split at h
      · rename_i hj
        cases h
        rw [rsh_get hj]
        show some (Value.int (G'.2.1 (rn a) j)) = _
        rw [hG.2.2.2.1 a]; try rfl
      · rename_i r hj
        cases h
        rw [rsh_get hj]; try rfl
      · cases h
    · cases h
  · cases h
theorem r_gf {x : Nat} (hG : gR G G') (h : az_gf k x nx L st G = some q) : ∃ q', az_gf k x nx (mL L) (mS st) G' = some q' ∧ nR q q' := by
  unfold az_gf at h
  split at h
  · rename_i ci j a r hl
    split at h
    · rename_i v hv
      cases h
      refine ⟨_, ?_, nR_of hG⟩
      unfold az_gf
      rw [hl]
      show (match az_gfl G'.1 G'.2.1 (rn a) ci j with | some v => _ | none => none) = _
      rw [r_gfl hG hv]; try rfl
    · cases h
  · cases h
theorem gR_I {a j : Nat} {v : Int32} (hG : gR G G') : gR (G.1, az_up G.2.1 a j v, G.2.2) (G'.1, az_up G'.2.1 (rn a) j v, G'.2.2) := by
  obtain ⟨h1, h2, h3, h4, h5, h6⟩ := hG
  refine ⟨h1, h2, h3, fun b => ?_, h5, h6⟩
  funext i
  show (if rn b = rn a ∧ i = j then v else G'.2.1 (rn b) i) = (if b = a ∧ i = j then v else G.2.1 b i)
  simp only [h4 b, rn_inj]
theorem r_pf {x : Nat} (hG : gR G G') (h : az_pf k x nx L st G = some q) : ∃ q', az_pf k x nx (mL L) (mS st) G' = some q' ∧ nR q q' := by
  unfold az_pf at h
  split at h
  · rename_i ci j v a r hl
    split at h
    · rename_i hp
      cases h
      have hp' : az_pfi G'.1 k (rn a) ci j = true := by
        unfold az_pfi at hp ⊢
        split at hp
        · rename_i c sl hS
          rw [gR_get hG hS]
          show (c == ci && az_wr k ci j && decide (az_ty ci j = .int) && _) = true
          simp only [Bool.and_eq_true] at hp ⊢
          refine ⟨hp.1, ?_⟩
          have h2 := hp.2
          split at h2
          · rename_i hj
            rw [rsh_get hj]; try rfl
          · cases h2
        · cases hp
      refine ⟨_, ?_, nR_of (gR_I hG)⟩
      unfold az_pf
      rw [hl]
      show (if az_pfi G'.1 k (rn a) ci j = true then _ else none) = _
      rw [if_pos hp']; try rfl
    · cases h
  · rename_i ci j v a r hl
    split at h
    · rename_i S hp
      cases h
      unfold az_pfr at hp
      split at hp
      · rename_i c sl hS
        split at hp
        · rename_i hc
          split at hp
          · rename_i o hj
            cases hp
            have hS' := gR_get hG hS
            have ha : a < G.1.length := (List.getElem?_eq_some_iff.mp hS).1
            have hG2 : gR (G.1.set a (0, c, sl.set j (some (some v))), G.2) (G'.1.set (rn a) (0, c, (sl.map rso).set j (some (some (rn v)))), G'.2) := by
              obtain ⟨h1, h2, h3, h4, h5, h6⟩ := hG
              refine ⟨by simpa using h1, by simpa using h2, fun b => ?_, h4, h5, h6⟩
              show (G'.1.set (rn a) _)[rn b]? = ((G.1.set a _)[b]?).map rsh
              by_cases hb : b = a
              · subst hb
                rw [List.getElem?_set_self (by rw [h2, rn_lt h1]; exact ha), List.getElem?_set_self ha]
                show _ = some (0, c, (sl.set j (some (some v))).map rso)
                rw [List.map_set]; try rfl
              · rw [List.getElem?_set_ne (fun e => hb (rn_inj.mp e).symm), List.getElem?_set_ne (fun e => hb e.symm)]
                exact h3 b
            refine ⟨_, ?_, nR_of hG2⟩
            unfold az_pf
            rw [hl]
            show (match az_pfr G'.1 k (rn a) ci j (rn v) with | some S => _ | none => none) = _
            have e : az_pfr G'.1 k (rn a) ci j (rn v) = some (G'.1.set (rn a) (0, c, (sl.map rso).set j (some (some (rn v))))) := by
              unfold az_pfr
              rw [hS']
              show (if c = ci ∧ az_wr k ci j = true ∧ (az_ty ci j).isReference = true ∧ rn v < G'.1.length then _ else none) = _
              rw [if_pos ⟨hc.1, hc.2.1, hc.2.2.1, by rw [hG.2.1, rn_lt hG.1]; exact hc.2.2.2⟩, show (List.map rso (0, c, sl).snd.snd)[j]? = _ from rsh_get hj]
              rfl
            rw [e]; try rfl
          · cases hp
        · cases hp
      · cases hp
    · cases h
  · cases h
theorem r_isA {kd a : Nat} {i : Int32} (hG : gR G G') (h : az_isA G.1 kd a i = true) : az_isA G'.1 kd (rn a) i = true := by
  unfold az_isA at h ⊢
  split at h
  · rename_i d n sl hS
    rw [gR_get hG hS]; exact h
  · cases h
theorem r_ial {xs : az_X} {kd : Nat} (hG : gR G G') (h : az_ial xs kd k nx L st G = some q) : ∃ q', az_ial xs kd k nx (mL L) (mS st) G' = some q' ∧ nR q q' := by
  unfold az_ial at h
  split at h
  · rename_i i a r
    show ∃ q', (if az_sk k = true then (if rn a = az_scr ∧ az_in i xs.1 = true ∧ kd = 1 then _ else none) else if az_isA G'.1 kd (rn a) i = true then some (nx, mL L, Value.int (G'.2.1 (rn a) i.toNatClampNeg) :: mS r, G') else none) = some q' ∧ nR q q'
    split at h
    · rename_i hk
      rw [if_pos hk]
      split at h
      · rename_i hc
        cases h
        rw [if_pos ⟨rn_scr_iff.mpr hc.1, hc.2⟩]
        exact ⟨_, rfl, nR_of hG⟩
      · cases h
    · rename_i hk
      rw [if_neg hk]
      split at h
      · rename_i hA
        cases h
        rw [if_pos (r_isA hG hA), hG.2.2.2.1 a]
        exact ⟨_, rfl, nR_of hG⟩
      · cases h
  · cases h
theorem r_aal (hG : gR G G') (h : az_aal nx L st G = some q) : ∃ q', az_aal nx (mL L) (mS st) G' = some q' ∧ nR q q' := by
  unfold az_aal at h
  split at h
  · rename_i i a r
    split at h
    · rename_i n sl hS
      split at h
      · rename_i hin
        split at h
        · rename_i z hj
          cases h
          refine ⟨_, ?_, nR_of hG⟩
          show (match G'.1[rn a]? with | some (4, n, sl) => if az_in i n = true then (match sl[i.toNatClampNeg]? with | some (some (some q)) => some (nx, mL L, Value.ref q :: mS r, G') | _ => none) else none | _ => none) = _
          rw [gR_get hG hS]
          show (if az_in i n = true then (match (sl.map rso)[i.toNatClampNeg]? with | some (some (some q)) => _ | _ => none) else none) = _
          rw [if_pos hin, rsh_get hj]; try rfl
        · cases h
      · cases h
    · cases h
  · cases h
theorem r_iast (hG : gR G G') (h : az_iast nx L st G = some q) : ∃ q', az_iast nx (mL L) (mS st) G' = some q' ∧ nR q q' := by
  unfold az_iast at h
  split at h
  · rename_i x i a r
    split at h
    · rename_i hA
      cases h
      refine ⟨_, ?_, nR_of (gR_I hG)⟩
      show (if az_isA G'.1 1 (rn a) i = true then _ else none) = _
      rw [if_pos (r_isA hG hA)]; try rfl
    · cases h
  · cases h
theorem r_bast (hG : gR G G') (h : az_bast nx L st G = some q) : ∃ q', az_bast nx (mL L) (mS st) G' = some q' ∧ nR q q' := by
  unfold az_bast at h
  split at h
  · rename_i x i a r
    split at h
    · rename_i hA
      cases h
      refine ⟨_, ?_, nR_of (gR_I hG)⟩
      show (if az_isA G'.1 2 (rn a) i = true then _ else none) = _
      rw [if_pos (r_isA hG hA)]; try rfl
    · cases h
  · cases h
theorem r_len {xs : az_X} (hG : gR G G') (h : az_len xs k nx L st G = some q) : ∃ q', az_len xs k nx (mL L) (mS st) G' = some q' ∧ nR q q' := by
  unfold az_len at h
  split at h
  · rename_i a r
    show ∃ q', (if az_sk k = true then (if rn a = az_scr then some (nx, mL L, Value.int (Int32.ofNat xs.1) :: mS r, G') else none) else (match G'.1[rn a]? with | some (1, n, _) => some (nx, mL L, Value.int (Int32.ofNat n) :: mS r, G') | _ => none)) = some q' ∧ nR q q'
    split at h
    · rename_i hk
      rw [if_pos hk]
      split at h
      · rename_i hc
        cases h
        rw [if_pos (rn_scr_iff.mpr hc)]
        exact ⟨_, rfl, nR_of hG⟩
      · cases h
    · rename_i hk
      rw [if_neg hk]
      split at h
      · rename_i n sl hS
        cases h
        rw [gR_get hG hS]
        exact ⟨_, rfl, nR_of hG⟩
      · cases h
  · cases h
theorem rsh_df {ci : Nat} : (az_df ci).map rso = az_df ci := by
  unfold az_df
  rw [List.map_map]
  apply List.map_congr_left
  intro j _
  show rso (if az_ty ci j = .int then none else some none) = _
  split <;> rfl
/-- a list grows behind the two objects' cells -/
theorem gR_app {T T' : List az_Shp} {c z : Nat} {J J' : Nat → Nat → Int64} (hG : gR G G') (hT : T' = T.map rsh) (hJ : ∀ a, J' (rn a) = J a) : gR (G.1 ++ T, az_clr G.2.1 G.1.length, J, c, z) (G'.1 ++ T', az_clr G'.2.1 G'.1.length, J', c, z) := by
  obtain ⟨h1, h2, h3, h4, h5, h6⟩ := hG
  subst hT
  refine ⟨by show 304 ≤ (G.1 ++ T).length; rw [List.length_append]; omega, by show (G'.1 ++ T.map rsh).length = (G.1 ++ T).length; rw [List.length_append, List.length_append, h2, List.length_map], fun a => ?_, fun a => ?_, hJ, rfl⟩
  · show (G'.1 ++ T.map rsh)[rn a]? = ((G.1 ++ T)[a]?).map rsh
    by_cases ha : a < G.1.length
    · rw [List.getElem?_append_left (by rw [h2, rn_lt h1]; exact ha), List.getElem?_append_left ha]
      exact h3 a
    · rw [rn_ge (by omega), List.getElem?_append_right (by omega), List.getElem?_append_right (by omega), h2, List.getElem?_map]
  · funext j
    show az_clr G'.2.1 G'.1.length (rn a) j = az_clr G.2.1 G.1.length a j
    unfold az_clr
    rw [h2, h4 a]
    by_cases ha : G.1.length ≤ a
    · rw [if_pos ha, if_pos (by rw [rn_ge (by omega)]; exact ha)]
    · rw [if_neg ha, if_neg (by have := (rn_lt (a := a) h1).mpr (by omega); omega)]
theorem r_new {x : Nat} (hG : gR G G') (h : az_new k x nx L st G = some q) : ∃ q', az_new k x nx (mL L) (mS st) G' = some q' ∧ nR q q' := by
  unfold az_new at h
  split at h
  · rename_i ci j hl
    split at h
    · rename_i hn
      cases h
      have hz : G'.2.2.2 = G.2.2.2 := hG.2.2.2.2.2
      have hg := gR_app (T := [(0, ci, az_df ci)]) (T' := [(0, ci, az_df ci)]) (c := G.2.2.2.1 + 1) (z := G.2.2.2.2 + az_N ci) hG (by show _ = [rsh (0, ci, az_df ci)]; unfold rsh; rw [rsh_df]) hG.2.2.2.2.1
      refine ⟨_, ?_, nR_of (st2 := .ref G.1.length :: st) hg⟩
      unfold az_new
      rw [hl]
      show (if G'.1.length < 100000 then some (nx, mL L, Value.ref G'.1.length :: mS st, (G'.1 ++ [(0, ci, az_df ci)], az_clr G'.2.1 G'.1.length, G'.2.2.1, G'.2.2.2.1 + 1, G'.2.2.2.2 + az_N ci)) else none) = some (nx, mL L, rv (.ref G.1.length) :: mS st, _)
      rw [hz, if_pos (by rw [hG.2.1]; exact hn)]
      show _ = some (nx, mL L, Value.ref (rn G.1.length) :: mS st, _)
      rw [rn_ge hG.1, hG.2.1]
    · cases h
  · cases h
theorem r_nwa {kd : Nat} (hG : gR G G') (h : az_nwa kd nx L st G = some q) : ∃ q', az_nwa kd nx (mL L) (mS st) G' = some q' ∧ nR q q' := by
  unfold az_nwa at h
  split at h
  · rename_i n r
    split at h
    · rename_i hn
      cases h
      have hz : G'.2.2.2 = G.2.2.2 := hG.2.2.2.2.2
      have hg := gR_app (T := [(kd, n.toNatClampNeg, [])]) (T' := [(kd, n.toNatClampNeg, [])]) (c := G.2.2.2.1 + 1) (z := G.2.2.2.2 + n.toNatClampNeg) (J := az_clrJ G.2.2.1 G.1.length) (J' := az_clrJ G'.2.2.1 G'.1.length) hG rfl (fun a => by
        funext j
        show az_clrJ G'.2.2.1 G'.1.length (rn a) j = az_clrJ G.2.2.1 G.1.length a j
        unfold az_clrJ
        rw [hG.2.1, hG.2.2.2.2.1 a]
        by_cases ha : G.1.length ≤ a
        · rw [if_pos ha, if_pos (by rw [rn_ge (by have := hG.1; omega)]; exact ha)]
        · rw [if_neg ha, if_neg (by have := (rn_lt (a := a) hG.1).mpr (by omega); omega)])
      refine ⟨_, ?_, nR_of (st2 := .ref G.1.length :: r) hg⟩
      show (if ¬ n < 0 ∧ n.toNatClampNeg ≤ 100000 ∧ G'.1.length < 100000 then some (nx, mL L, Value.ref G'.1.length :: mS r, (G'.1 ++ [(kd, n.toNatClampNeg, [])], az_clr G'.2.1 G'.1.length, az_clrJ G'.2.2.1 G'.1.length, G'.2.2.2.1 + 1, G'.2.2.2.2 + n.toNatClampNeg)) else none) = some (nx, mL L, rv (.ref G.1.length) :: mS r, _)
      rw [hz, if_pos (by rw [hG.2.1]; exact hn)]
      show _ = some (nx, mL L, Value.ref (rn G.1.length) :: mS r, _)
      rw [rn_ge hG.1, hG.2.1]
    · cases h
  · cases h
theorem r_nwm {x : Nat} (hG : gR G G') (h : az_nwm k x nx L st G = some q) : ∃ q', az_nwm k x nx (mL L) (mS st) G' = some q' ∧ nR q q' := by
  unfold az_nwm at h
  split at h
  · rename_i b1 b2 m n r hl
    split at h
    · rename_i hn
      cases h
      have hz : G'.2.2.2 = G.2.2.2 := hG.2.2.2.2.2
      obtain ⟨T, hT⟩ : ∃ T : List az_Shp, T = [(4, n.toNatClampNeg, (List.range n.toNatClampNeg).map fun j => some (some (G.1.length + 1 + j)))] ++ List.replicate n.toNatClampNeg (1, m.toNatClampNeg, []) := ⟨_, rfl⟩
      have hTm : T = T.map rsh := by
        subst hT
        rw [List.map_append, List.map_replicate]
        congr 1
        show _ = [rsh _]
        unfold rsh
        congr 3
        show _ = List.map rso _
        rw [List.map_map]
        apply List.map_congr_left
        intro j _
        show some (some _) = some (some (rn _))
        rw [rn_ge (by have := hG.1; omega)]
      have hg := gR_app (T := T) (T' := T) (c := G.2.2.2.1 + 1 + n.toNatClampNeg) (z := G.2.2.2.2 + n.toNatClampNeg + n.toNatClampNeg * m.toNatClampNeg) hG hTm hG.2.2.2.2.1
      have e1 : G.1 ++ T = (G.1 ++ [(4, n.toNatClampNeg, (List.range n.toNatClampNeg).map fun j => some (some (G.1.length + 1 + j)))]) ++ List.replicate n.toNatClampNeg (1, m.toNatClampNeg, []) := by rw [hT, List.append_assoc]
      have e2 : G'.1 ++ T = (G'.1 ++ [(4, n.toNatClampNeg, (List.range n.toNatClampNeg).map fun j => some (some (G'.1.length + 1 + j)))]) ++ List.replicate n.toNatClampNeg (1, m.toNatClampNeg, []) := by rw [hT, hG.2.1, List.append_assoc]
      rw [e1, e2] at hg
      refine ⟨_, ?_, nR_of (st2 := .ref G.1.length :: r) hg⟩
      unfold az_nwm
      rw [hl]
      show (if ¬ n < 0 ∧ ¬ m < 0 ∧ n.toNatClampNeg ≤ 1000 ∧ m.toNatClampNeg ≤ 1000 ∧ G'.1.length < 100000 then some (nx, mL L, Value.ref G'.1.length :: mS r, (_, az_clr G'.2.1 G'.1.length, G'.2.2.1, G'.2.2.2.1 + 1 + n.toNatClampNeg, G'.2.2.2.2 + n.toNatClampNeg + n.toNatClampNeg * m.toNatClampNeg)) else none) = some (nx, mL L, rv (.ref G.1.length) :: mS r, _)
      rw [hz, if_pos (by rw [hG.2.1]; exact hn)]
      show _ = some (nx, mL L, Value.ref (rn G.1.length) :: mS r, _)
      rw [rn_ge hG.1, hG.2.1]
    · cases h
  · cases h
theorem r_mth {x : Nat} (hG : gR G G') (h : az_mth k x nx L st G = some q) : ∃ q', az_mth k x nx (mL L) (mS st) G' = some q' ∧ nR q q' := by
  unfold az_mth at h
  split at h
  · rename_i b1 b2 b a r hl
    split at h
    · rename_i hc
      cases h
      refine ⟨_, ?_, nR_of hG⟩
      unfold az_mth
      rw [hl]
      show (if az_cat (mS r) ≤ 8 then _ else none) = _
      rw [mS_cat, if_pos hc]; try rfl
    · cases h
  · rename_i b1 b2 b a r hl
    split at h
    · rename_i hc
      cases h
      refine ⟨_, ?_, nR_of hG⟩
      unfold az_mth
      rw [hl]
      show (if az_cat (mS r) ≤ 8 then _ else none) = _
      rw [mS_cat, if_pos hc]; try rfl
    · cases h
  · cases h
theorem r_oin {x : Nat} (hG : gR G G') (h : az_oin k x nx L st G = some q) : ∃ q', az_oin k x nx (mL L) (mS st) G' = some q' ∧ nR q q' := by
  unfold az_oin at h
  split at h
  · rename_i b1 b2 b r hl
    split at h
    · rename_i hc
      cases h
      refine ⟨_, ?_, nR_of hG⟩
      unfold az_oin
      rw [hl]
      show (if az_cat (mS r) ≤ 8 then _ else none) = _
      rw [mS_cat, if_pos hc]; try rfl
    · cases h
  · cases h
theorem r_stp {xs : az_X} {i : Instr} (hG : gR G G') (h : az_stp xs k i pc nx L st G = some q) : ∃ q', az_stp xs k i pc nx (mL L) (mS st) G' = some q' ∧ nR q q' := by
  unfold az_stp at h
  split at h
  all_goals first
    | (cases h; exact ⟨_, rfl, nR_of hG⟩)
    | exact r_b2 hG h
    | exact r_dv hG h
    | exact r_ild hG h
    | exact r_ald hG h
    | exact r_ist hG h
    | exact r_ast hG h
    | exact r_inc hG h
    | exact r_if1 hG h
    | exact r_if2 hG h
    | exact r_br hG h
    | exact r_tsw hG h
    | exact r_gf hG h
    | exact r_pf hG h
    | exact r_ial hG h
    | exact r_aal hG h
    | exact r_iast hG h
    | exact r_bast hG h
    | exact r_len hG h
    | exact r_new hG h
    | exact r_nwa hG h
    | exact r_nwm hG h
    | exact r_mth hG h
    | exact r_oin hG h
    | (obtain ⟨v, hv, rfl⟩ := Option.map_eq_some_iff.mp h
       refine ⟨_, ?_, nR_of hG⟩
       show Option.map _ _ = _
       rw [hv]; try rfl)
    | (split at h
       · first
         | (cases h; exact ⟨_, rfl, nR_of hG⟩)
         | (split at h
            · rename_i hc
              cases h
              refine ⟨_, ?_, nR_of hG⟩
              show (if _ then _ else none) = _
              simp only [rv_cat]
              rw [if_pos hc]; try rfl
            · cases h)
       · cases h)
    | (cases h; done)
theorem r_end {i : Instr} {o : az_O} (hG : gR G G') (h : az_end k i pc st G = some o) : ∃ o', az_end k i pc (mS st) G' = some o' ∧ oR o o' := by
  unfold az_end at h
  split at h
  · split at h
    · rename_i v
      split at h
      · rename_i hc
        cases h
        refine ⟨(0, some (.int v), G'), ?_, rfl, rfl, hG⟩
        show (if _ then _ else none) = _
        rw [if_pos hc]
      · cases h
    · cases h
  · split at h
    · split at h
      · rename_i hc
        cases h
        refine ⟨(0, none, G'), ?_, rfl, rfl, hG⟩
        show (if _ then _ else none) = _
        rw [if_pos hc]
      · cases h
    · cases h
  · split at h
    · obtain ⟨v, hv, rfl⟩ := Option.map_eq_some_iff.mp h
      have hz : G'.2.2.2 = G.2.2.2 := hG.2.2.2.2.2
      refine ⟨(v, none, (G'.1, G'.2.1, G'.2.2.1, G'.2.2.2.1 + 1, G'.2.2.2.2 + 6)), ?_, rfl, rfl, hG.1, hG.2.1, hG.2.2.1, hG.2.2.2.1, hG.2.2.2.2.1, ?_⟩
      · show Option.map _ _ = _
        rw [hv]; try rfl
      · show (G'.2.2.2.1 + 1, G'.2.2.2.2 + 6) = (G.2.2.2.1 + 1, G.2.2.2.2 + 6)
        rw [hz]
    · cases h
  · cases h
theorem r_endn {i : Instr} (h : az_end k i pc st G = none) : az_end k i pc (mS st) G' = none := by
  have key : ∀ (G2 : az_G), (∃ o, az_end k i pc (mS st) G2 = some o) → ∃ o, az_end k i pc st G = some o := by
    intro G2 ⟨o, ho⟩
    unfold az_end at ho
    split at ho
    · split at ho
      · rename_i v hst
        split at ho
        · rename_i hc
          match st, hst with
          | [.int w], hst =>
            have e : Value.int w = Value.int v := (List.cons.inj hst).1
            cases e
            exact ⟨_, by unfold az_end; show (if _ then _ else none) = _; rw [if_pos hc]⟩
        · cases ho
      · cases ho
    · split at ho
      · rename_i hst
        split at ho
        · rename_i hc
          match st, hst with
          | [], _ => exact ⟨_, by unfold az_end; show (if _ then _ else none) = _; rw [if_pos hc]⟩
        · cases ho
      · cases ho
    · split at ho
      · rename_i hst
        obtain ⟨v, hv, rfl⟩ := Option.map_eq_some_iff.mp ho
        match st, hst with
        | [], _ => exact ⟨_, by unfold az_end; show Option.map _ _ = _; rw [hv]; try rfl⟩
      · cases ho
    · cases ho
  cases hc : az_end k i pc (mS st) G' with
  | none => rfl
  | some o =>
    obtain ⟨o2, ho2⟩ := key G' ⟨o, hc⟩
    rw [h] at ho2
    cases ho2
theorem mS_take {t : Nat} : mS (st.take t) = (mS st).take t := by unfold mS; rw [List.map_take]
theorem mS_drop {t : Nat} : mS (st.drop t) = (mS st).drop t := by unfold mS; rw [List.map_drop]
theorem mS_rev : mS st.reverse = (mS st).reverse := by unfold mS; rw [List.map_reverse]
theorem r_rcv {m : Nat} (hG : gR G G') : az_rcv G'.1 m (mS st) = az_rcv G.1 m st := by
  cases st with
  | nil => rfl
  | cons v r =>
    cases v with
    | ref b =>
      show (match G'.1[rn b]? with | some (0, ci, _) => ci == az_own m | _ => false) = (match G.1[b]? with | some (0, ci, _) => ci == az_own m | _ => false)
      cases hS : G.1[b]? with
      | none => rw [gR_none hG hS]
      | some sh =>
        rw [gR_get hG hS]
        obtain ⟨a, b2, c⟩ := sh
        cases a <;> rfl
    | _ => rfl
theorem r_cl1 {kd o x : Nat} (hG : gR G G') : az_cl1 kd o x (mS st) G'.1 = (az_cl1 kd o x st G.1).map fun r => (r.1, mS r.2.1, mS r.2.2) := by
  unfold az_cl1
  split
  · rename_i m t hl
    have e1 : (mS st).length = st.length := by simp
    rw [← mS_take, ← mS_drop, ← mS_rev, mS_cat, mS_cat, r_rcv hG, e1]
    split
    · rfl
    · rfl
  · rfl
theorem r_cal {i : Instr} (hG : gR G G') : az_cal k i (mS st) G'.1 = (az_cal k i st G.1).map fun r => (r.1, mS r.2.1, mS r.2.2) := by
  unfold az_cal
  split
  · exact r_cl1 hG
  · exact r_cl1 hG
  · exact r_cl1 hG
  · rfl
theorem mL_lay {m : Nat} {as : List Value} : az_lay m (mS as) = mL (az_lay m as) := by
  unfold az_lay mL mS
  rw [List.map_append, List.map_replicate, List.map_map, List.map_map, List.length_map]
  rfl
end
theorem r_run {xs : az_X} : ∀ (f d k pc : Nat) (L : az_Ls) (st : List Value) (G G' : az_G) (o : az_O), gR G G' → az_run xs f d k pc L st G = some o → ∃ o', az_run xs f d k pc (mL L) (mS st) G' = some o' ∧ oR o o' := by
  intro f
  induction f with
  | zero => intro d k pc L st G G' o hG h; cases h
  | succ f ih =>
    intro d k pc L st G G' o hG h
    rw [az_run] at h ⊢
    split at h
    · rename_i i len hd
      split at h
      · rename_i hil
        (try dsimp only)
        rw [if_pos hil]
        split at h
        · rename_i o9 h9
          cases h
          obtain ⟨o', e, hR⟩ := r_end hG h9
          rw [e]
          exact ⟨o', rfl, hR⟩
        · rename_i h9
          rw [r_endn h9]
          (try dsimp only)
          rw [r_cal hG]
          split at h
          · rename_i mm as rest hc
            rw [hc]
            (try dsimp only [Option.map_some])
            split at h
            · cases h
            · rename_i d
              split at h
              · cases h
              · rename_i o1 h1
                obtain ⟨o1', e1, hR1⟩ := ih _ _ _ _ _ _ _ _ hG h1
                rw [mL_lay]
                (try dsimp only)
                rw [show az_run xs f d mm 0 (mL (az_lay mm as)) [] G' = some o1' from e1]
                (try dsimp only)
                split at h
                · rename_i h0
                  rw [if_pos (hR1.1.trans h0)]
                  obtain ⟨o2, e2, hR2⟩ := ih _ _ _ _ _ _ _ _ hR1.2.2 h
                  have e3 : o1'.2.1.toList ++ mS rest = mS (o1.2.1.toList ++ rest) := by
                    rw [hR1.2.1]
                    unfold mS
                    rw [List.map_append]
                    cases o1.2.1 <;> rfl
                  rw [e3]
                  exact ⟨o2, e2, hR2⟩
                · rename_i h0
                  rw [if_neg (by rw [hR1.1]; exact h0), hR1.1]
                  split at h
                  · rename_i n nx hh
                    (try rw [hh])
                    obtain ⟨o2, e2, hR2⟩ := ih _ _ _ _ _ _ _ _ hR1.2.2 h
                    rw [mL_set] at e2
                    exact ⟨o2, e2, hR2⟩
                  · rename_i hh
                    (try rw [hh])
                    (try dsimp only)
                    split at h
                    · rename_i hc2
                      cases h
                      rw [if_pos hc2]
                      exact ⟨_, rfl, rfl, rfl, hR1.2.2⟩
                    · cases h
          · rename_i hc
            rw [hc]
            (try dsimp only [Option.map_none])
            split at h
            · rename_i q hq
              obtain ⟨q', e, hR⟩ := r_stp hG hq
              rw [e]
              (try dsimp only)
              obtain ⟨o2, e2, hR2⟩ := ih _ _ _ _ _ _ _ _ hR.2.2.2 h
              rw [hR.1, hR.2.1, hR.2.2.1]
              exact ⟨o2, e2, hR2⟩
            · cases h
      · cases h
    · cases h
theorem rsh_S : ∀ a, a < 304 → az_S[rn a]? = (az_S[a]?).map rsh := fun a h => of_decide_eq_true (List.all_eq_true.mp (show (List.range 304).all (fun a => decide (az_S[rn a]? = (az_S[a]?).map rsh)) = true by decide +kernel) a (List.mem_range.mpr h))
theorem az_S_304 : az_S.length = 304 := az_S_len
theorem rsh_Sa (a : Nat) : az_S[rn a]? = (az_S[a]?).map rsh := by
  by_cases h : a < 304
  · exact rsh_S a h
  · rw [rn_ge (by omega), List.getElem?_eq_none (by rw [az_S_304]; omega)]; try rfl
theorem gR_S {I : Nat → Nat → Int32} {J : Nat → Nat → Int64} {c z : Nat} : gR (az_S, fun a => I (rn a), fun a => J (rn a), c, z) (az_S, I, J, c, z) :=
  ⟨by show 304 ≤ az_S.length; rw [az_S_304]; exact Nat.le_refl _, rfl, rsh_Sa, fun a => rfl, fun a => rfl, rfl⟩
theorem gR_back {I I' : Nat → Nat → Int32} {J J' : Nat → Nat → Int64} {c z c' z' : Nat} {S' : List az_Shp} (h : gR (az_S, I, J, c, z) (S', I', J', c', z')) : S' = az_S ∧ I' = (fun a => I (rn a)) ∧ J' = (fun a => J (rn a)) ∧ c' = c ∧ z' = z := by
  obtain ⟨h1, h2, h3, h4, h5, h6⟩ := h
  refine ⟨?_, ?_, ?_, ?_, ?_⟩
  · apply List.ext_getElem?
    intro i
    have h := h3 (rn i)
    rw [rn_rn] at h
    rw [show S'[i]? = _ from h, ← rsh_Sa, rn_rn]
  · funext a
    have h := h4 (rn a)
    rw [rn_rn] at h
    exact h
  · funext a
    have h := h5 (rn a)
    rw [rn_rn] at h
    exact h
  · exact congrArg Prod.fst h6
  · exact congrArg Prod.snd h6
/-- a call on the one object, out of the same call on the other -/
theorem swapC {xs : az_X} {d m : Nat} {as : List Value} {I : Nat → Nat → Int32} {J : Nat → Nat → Int64} {c z : Nat} {K K' : az_O → Prop} (h : az_C xs d m as (az_S, fun a => I (rn a), fun a => J (rn a), c, z) K')
    (hK : ∀ n v S I' J' c' z', K' (n, v, (S, I', J', c', z')) → S = az_S ∧ K (n, v.map rv, (az_S, fun a => I' (rn a), fun a => J' (rn a), c', z'))) : az_C xs d m (mS as) (az_S, I, J, c, z) K := by
  cases d with
  | zero => exact h
  | succ d =>
    obtain ⟨f, ⟨n, v, S, I', J', c', z'⟩, hr, hk⟩ := h
    obtain ⟨⟨n2, v2, S2, I2, J2, c2, z2⟩, hr2, e1, e2, hR⟩ := r_run _ _ _ _ _ _ _ _ _ gR_S hr
    obtain ⟨rfl, hk2⟩ := hK _ _ _ _ _ _ _ hk
    obtain ⟨rfl, rfl, rfl, rfl, rfl⟩ := gR_back hR
    refine ⟨f, (n2, v2, az_S, fun a => I' (rn a), fun a => J' (rn a), c2, z2), ?_, ?_⟩
    · rw [mL_lay]
      exact hr2
    · have e1 : n2 = n := e1
      have e2 : v2 = v.map rv := e2
      rw [e1, e2]
      exact hk2
