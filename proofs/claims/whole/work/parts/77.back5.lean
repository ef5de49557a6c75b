/-! coins go back: both say the same -/
theorem gb_cs {op : Nat → Int32} {x : Nat} {L : List Nat} {dr : Nat → Int32} {m : Int32} : gb (x :: L) op (dr, m) = gb L op (upd dr x (tkm m (op x)), m - tkm m (op x)) := by
  unfold gb
  rw [List.foldl_cons]
theorem gb_cg {op op2 : Nat → Int32} : ∀ {L : List Nat} {dr : Nat → Int32} {m : Int32}, (∀ y, y ∈ L → op y = op2 y) → gb L op (dr, m) = gb L op2 (dr, m) := by
  intro L
  induction L with
  | nil =>
    intro dr m _
    unfold gb
    rw [List.foldl_nil, List.foldl_nil]
  | cons x L ih =>
    intro dr m h
    rw [gb_cs, gb_cs, h x List.mem_cons_self]
    exact ih fun y hy => h y (List.mem_cons_of_mem _ hy)
theorem gb_out {op : Nat → Int32} {j : Nat} : ∀ {L : List Nat} {dr : Nat → Int32} {m : Int32}, j ∉ L → (gb L op (dr, m)).1 j = dr j := by
  intro L
  induction L with
  | nil => intro dr m _; rfl
  | cons x L ih =>
    intro dr m h
    rw [List.mem_cons, not_or] at h
    have e1 : gb (x :: L) op (dr, m) = gb L op (upd dr x (tkm m (op x)), m - tkm m (op x)) := rfl
    rw [e1, ih h.2, upde, if_neg h.1]
theorem gb_cons {op : Nat → Int32} {x : Nat} {L : List Nat} {m : Int32} (hx : x ∉ L) (k : Nat) : (gb (x :: L) op ((fun _ => 0), m)).1 k = if k = x then tkm m (op x) else (gb L op ((fun _ => 0), m - tkm m (op x))).1 k := by
  have e1 : gb (x :: L) op ((fun _ => 0), m) = gb L op (upd (fun _ => 0) x (tkm m (op x)), m - tkm m (op x)) := rfl
  rw [e1]
  by_cases h : k = x
  · subst h
    rw [if_pos rfl, gb_out hx, upde, if_pos rfl]
  · rw [if_neg h]
    exact gb_drj (by rw [upde, if_neg h])
theorem mb_eq {ex : Nat → Bool} : ∀ (L : List Nat) (g T : Nat → Int32) (late m : Int32), L.Nodup → (mb true ex L (g, T, late, m)).1 = (fun k => if ex k = true then g k else g k + (gb L T ((fun _ => 0), m)).1 k) ∧ (mb true ex L (g, T, late, m)).2.1 = (fun k => T k - (gb L T ((fun _ => 0), m)).1 k) := by
  intro L
  induction L with
  | nil =>
    intro g T late m _
    refine ⟨?_, ?_⟩
    · funext k
      show g k = if ex k = true then g k else g k + 0
      rw [Int32.add_zero, ite_self]
    · funext k
      show T k = T k - 0
      rw [Int32.sub_zero]
  | cons x L ih =>
    intro g T late m hn
    rw [List.nodup_cons] at hn
    have e : mb true ex (x :: L) (g, T, late, m) = mb true ex L (mbk true ex x (g, T, late, m)) := rfl
    rw [e]
    unfold mbk
    simp only [if_true]
    obtain ⟨h1, h2⟩ := ih (if ex x = true then g else upd g x (g x + tkm m (T x))) (upd T x (T x - tkm m (T x))) (if ex x = true then late + tkm m (T x) else late) (m - tkm m (T x)) hn.2
    have hc : gb L (upd T x (T x - tkm m (T x))) ((fun _ => 0), m - tkm m (T x)) = gb L T ((fun _ => 0), m - tkm m (T x)) := gb_cg fun y hy => by rw [upde, if_neg (ne_mem hn.1 hy)]
    rw [hc] at h1 h2
    rw [h1, h2]
    have hxo : (gb L T ((fun _ => 0), m - tkm m (T x))).1 x = 0 := gb_out hn.1
    refine ⟨?_, ?_⟩
    · funext k
      rw [gb_cons hn.1]
      by_cases h : k = x
      · subst h
        rw [if_pos rfl, hxo]
        by_cases hx : ex k = true
        · simp only [hx, if_true]
        · simp only [hx, Bool.false_eq_true, if_false, upd_at, Int32.add_zero]
      · rw [if_neg h]
        by_cases hx : ex x = true
        · rw [if_pos hx]
        · rw [if_neg hx, upde, if_neg h]
    · funext k
      rw [gb_cons hn.1, upde]
      by_cases h : k = x
      · subst h
        rw [if_pos rfl, if_pos rfl, hxo, Int32.sub_zero]
      · rw [if_neg h, if_neg h]
theorem mb_late {b : Bool} {ex : Nat → Bool} : ∀ (L : List Nat) (g T : Nat → Int32) (late m : Int32), L.Nodup → (∀ x, x ∈ L → 0 ≤ (T x).toInt) → 0 ≤ m.toInt → m.toInt ≤ 1000 → 0 ≤ late.toInt → late.toInt + 1000 * (L.length : Int) < 2 ^ 31 → (mb b ex L (g, T, late, m)).2.2.1.toInt = late.toInt + smi (fun x => if ex x = true then ((gb L T ((fun _ => 0), m)).1 x).toInt else 0) L := by
  intro L
  induction L with
  | nil =>
    intro g T late m _ _ _ _ _ _
    show late.toInt = late.toInt + 0
    omega
  | cons x L ih =>
    intro g T late m hn hT hm hm1 hl hb
    rw [List.nodup_cons] at hn
    have hx := hT x List.mem_cons_self
    obtain ⟨a1, a2, a3⟩ := tkm_le hm hx
    rw [List.length_cons] at hb
    have e : mb b ex (x :: L) (g, T, late, m) = mb b ex L (mbk b ex x (g, T, late, m)) := rfl
    rw [e]
    have hmb : mbk b ex x (g, T, late, m) = ((if b = true then (if ex x = true then g else upd g x (g x + tkm m (T x))) else g), (if b = true then upd T x (T x - tkm m (T x)) else T), (if ex x = true then late + tkm m (T x) else late), m - tkm m (T x)) := rfl
    rw [hmb]
    have hT2 : ∀ y, y ∈ L → (if b = true then upd T x (T x - tkm m (T x)) else T) y = T y := fun y hy => by
      split
      · rw [upde, if_neg (ne_mem hn.1 hy)]
      · rfl
    have hla : (if ex x = true then late + tkm m (T x) else late).toInt = late.toInt + (if ex x = true then (tkm m (T x)).toInt else 0) := by
      by_cases hx : ex x = true
      · simp only [hx, if_true]
        exact fb_addI (by omega) (by omega)
      · simp only [hx, Bool.false_eq_true, if_false]
        omega
    have hlb : 0 ≤ (if ex x = true then (tkm m (T x)).toInt else (0 : Int)) ∧ (if ex x = true then (tkm m (T x)).toInt else (0 : Int)) ≤ 1000 := by
      split <;> omega
    have key := ih (if b = true then (if ex x = true then g else upd g x (g x + tkm m (T x))) else g) (if b = true then upd T x (T x - tkm m (T x)) else T) (if ex x = true then late + tkm m (T x) else late) (m - tkm m (T x)) hn.2 (fun y hy => by rw [hT2 y hy]; exact hT y (List.mem_cons_of_mem _ hy)) (by omega) (by omega) (by omega) (by rw [hla]; omega)
    rw [key, hla, gb_cg hT2]
    have e2 : smi (fun y => if ex y = true then ((gb (x :: L) T ((fun _ => 0), m)).1 y).toInt else 0) (x :: L) = (if ex x = true then (tkm m (T x)).toInt else 0) + smi (fun y => if ex y = true then ((gb L T ((fun _ => 0), m - tkm m (T x))).1 y).toInt else 0) L := by
      show (if ex x = true then ((gb (x :: L) T ((fun _ => 0), m)).1 x).toInt else 0) + smi _ L = _
      rw [gb_cons hn.1, if_pos rfl]
      congr 1
      apply smi_cg
      intro y hy
      rw [gb_cons hn.1, if_neg (ne_mem hn.1 hy)]
    rw [e2]
    omega
theorem fb_smi {t : Nat → Int} : ∀ (F : List Nat), fb_si (fun k => t (F.getD k 0)) F.length = smi t F := by
  intro F
  induction F with
  | nil => rfl
  | cons x F ih =>
    rw [List.length_cons, Nat.add_comm, fb_si_split]
    have e1 : fb_si (fun k => t ((x :: F).getD k 0)) 1 = t x := by
      show 0 + t x = _
      omega
    have e2 : fb_si (fun k => t ((x :: F).getD (1 + k) 0)) F.length = smi t F := by
      rw [← ih]
      apply fb_si_cong
      intro k _
      rw [Nat.add_comm]
      rfl
    rw [e1, e2]
    rfl
theorem lt_ltb {I : Nat → Nat → Int32} {a b : Nat} (h : az_lt I a b) : ltb (fun j => az_nv (I 33 j)) (I 30) a b = true := by
  rw [ltb_iff]
  unfold az_lt at h
  rcases h with h | ⟨h1, h2⟩
  · exact Or.inl h
  · refine Or.inr ⟨by rw [h1], ?_⟩
    rcases h2 with h2 | ⟨h2, h3⟩
    · exact Or.inl h2
    · exact Or.inr ⟨by rw [h2], h3⟩
/-- the lots of a payment as a list -/
theorem pay_list {I : Nat → Nat → Int32} {nl w : Nat} {f : Nat → Nat} (hl : nl ≤ 60) (h1 : ∀ k, k < w → f k < nl) (h2 : ∀ k m, k < m → m < w → az_lt I (f k) (f m)) : ∃ F : List Nat, F.length = w ∧ (∀ k, k < w → F.getD k 0 = f k) ∧ F.Pairwise (fun a b => ltb (fun j => az_nv (I 33 j)) (I 30) a b = true) ∧ F.Nodup ∧ (∀ z, z ∈ F → z < nl) ∧ ∀ z, z ∈ F ↔ ∃ k, k < w ∧ f k = z := by
  have hlen : ((List.range w).map f).length = w := by simp
  have hget : ∀ k, k < w → ((List.range w).map f).getD k 0 = f k := fun k hk => by simp [List.getD, hk]
  have hp : ((List.range w).map f).Pairwise (fun a b => ltb (fun j => az_nv (I 33 j)) (I 30) a b = true) := by
    rw [List.pairwise_iff_getElem]
    intro i j hi hj hij
    rw [hlen] at hi hj
    simp only [List.getElem_map, List.getElem_range]
    exact lt_ltb (h2 i j hij hj)
  refine ⟨(List.range w).map f, hlen, hget, hp, ?_, fun z hz => ?_, fun z => ?_⟩
  · have := srt_nodup (lt := ltb (fun j => az_nv (I 33 j)) (I 30)) ltb_ir (A := ((List.range w).map f).reverse) (List.pairwise_reverse.mpr hp)
    have h3 := nd_rev this
    rwa [List.reverse_reverse] at h3
  · obtain ⟨k, hk, rfl⟩ := List.mem_map.mp hz
    exact h1 k (List.mem_range.mp hk)
  · rw [List.mem_map]
    constructor
    · rintro ⟨k, hk, h⟩; exact ⟨k, List.mem_range.mp hk, h⟩
    · rintro ⟨k, hk, h⟩; exact ⟨k, List.mem_range.mpr hk, h⟩
theorem gb_sim {I I' : Nat → Nat → Int32} {mo nc nl ng np t p n' : Nat} {D : Nat → Int32} (H : az_Sim I mo nc nl ng np t) (hp : p < np) (e : ∀ a, a ∈ az_dc → a ∉ [31, 109, 169, 180, 183] → a ≠ 112 + p → I' a = I a) (hc : az_cnt mo nc nl ng np I') (e169' : I' 169 = I' 31) (e180' : I' 180 = I' 109) (h109 : I' 109 = upd (I 109) p (nI n')) (hn' : n' ≤ 1000) (h31 : ∀ j, j < nl → 0 ≤ (I' 31 j).toInt ∧ (I' 31 j).toInt ≤ 1000 * ((t + 1 : Nat) + 1 : Int)) (hrow : ∀ j, j < 60 → I' (112 + p) j = I (112 + p) j - D j) (h183 : ∀ j, j < 60 → I' 183 (60 * p + j) = I (112 + p) j - D j) (h183' : ∀ i, (i < 60 * p ∨ 60 * p + 60 ≤ i) → I' 183 i = I 183 i) (hD : ∀ j, j < 60 → 0 ≤ (D j).toInt ∧ (D j).toInt ≤ (I (112 + p) j).toInt) (hsum : (n' : Int) = (I 109 p).toInt - fb_si (fun j => (D j).toInt) 60) : az_Sim I' mo nc nl ng np (t + 1) := by
  have hnp : np ≤ 40 := H.2.1.2.2.2.2.2.2
  have ep : ∀ q, q < 40 → q ≠ p → I' (112 + q) = I (112 + q) := fun q hq hqn => e _ (by unfold az_dc; exact List.mem_append_right _ (List.mem_map.mpr ⟨q, List.mem_range.mpr hq, rfl⟩)) (by simp; omega) (by omega)
  have e2 := e 2 (by decide +kernel) (by decide +kernel) (by omega)
  have e3 := e 3 (by decide +kernel) (by decide +kernel) (by omega)
  have e4 := e 4 (by decide +kernel) (by decide +kernel) (by omega)
  have e6 := e 6 (by decide +kernel) (by decide +kernel) (by omega)
  have e7 := e 7 (by decide +kernel) (by decide +kernel) (by omega)
  have e8 := e 8 (by decide +kernel) (by decide +kernel) (by omega)
  have e9 := e 9 (by decide +kernel) (by decide +kernel) (by omega)
  have e10 := e 10 (by decide +kernel) (by decide +kernel) (by omega)
  have e11 := e 11 (by decide +kernel) (by decide +kernel) (by omega)
  have e12 := e 12 (by decide +kernel) (by decide +kernel) (by omega)
  have e13 := e 13 (by decide +kernel) (by decide +kernel) (by omega)
  have e15 := e 15 (by decide +kernel) (by decide +kernel) (by omega)
  have e16 := e 16 (by decide +kernel) (by decide +kernel) (by omega)
  have e17 := e 17 (by decide +kernel) (by decide +kernel) (by omega)
  have e19 := e 19 (by decide +kernel) (by decide +kernel) (by omega)
  have e20 := e 20 (by decide +kernel) (by decide +kernel) (by omega)
  have e21 := e 21 (by decide +kernel) (by decide +kernel) (by omega)
  have e22 := e 22 (by decide +kernel) (by decide +kernel) (by omega)
  have e23 := e 23 (by decide +kernel) (by decide +kernel) (by omega)
  have e24 := e 24 (by decide +kernel) (by decide +kernel) (by omega)
  have e25 := e 25 (by decide +kernel) (by decide +kernel) (by omega)
  have e26 := e 26 (by decide +kernel) (by decide +kernel) (by omega)
  have e27 := e 27 (by decide +kernel) (by decide +kernel) (by omega)
  have e29 := e 29 (by decide +kernel) (by decide +kernel) (by omega)
  have e30 := e 30 (by decide +kernel) (by decide +kernel) (by omega)
  have e32 := e 32 (by decide +kernel) (by decide +kernel) (by omega)
  have e33 := e 33 (by decide +kernel) (by decide +kernel) (by omega)
  have e37 := e 37 (by decide +kernel) (by decide +kernel) (by omega)
  have e38 := e 38 (by decide +kernel) (by decide +kernel) (by omega)
  have e39 := e 39 (by decide +kernel) (by decide +kernel) (by omega)
  have e40 := e 40 (by decide +kernel) (by decide +kernel) (by omega)
  have e107 := e 107 (by decide +kernel) (by decide +kernel) (by omega)
  have e108 := e 108 (by decide +kernel) (by decide +kernel) (by omega)
  have e110 := e 110 (by decide +kernel) (by decide +kernel) (by omega)
  have e153 := e 153 (by decide +kernel) (by decide +kernel) (by omega)
  have e154 := e 154 (by decide +kernel) (by decide +kernel) (by omega)
  have e155 := e 155 (by decide +kernel) (by decide +kernel) (by omega)
  have e156 := e 156 (by decide +kernel) (by decide +kernel) (by omega)
  have e157 := e 157 (by decide +kernel) (by decide +kernel) (by omega)
  have e158 := e 158 (by decide +kernel) (by decide +kernel) (by omega)
  have e159 := e 159 (by decide +kernel) (by decide +kernel) (by omega)
  have e160 := e 160 (by decide +kernel) (by decide +kernel) (by omega)
  have e161 := e 161 (by decide +kernel) (by decide +kernel) (by omega)
  have e162 := e 162 (by decide +kernel) (by decide +kernel) (by omega)
  have e163 := e 163 (by decide +kernel) (by decide +kernel) (by omega)
  have e164 := e 164 (by decide +kernel) (by decide +kernel) (by omega)
  have e165 := e 165 (by decide +kernel) (by decide +kernel) (by omega)
  have e166 := e 166 (by decide +kernel) (by decide +kernel) (by omega)
  have e167 := e 167 (by decide +kernel) (by decide +kernel) (by omega)
  have e168 := e 168 (by decide +kernel) (by decide +kernel) (by omega)
  have e170 := e 170 (by decide +kernel) (by decide +kernel) (by omega)
  have e171 := e 171 (by decide +kernel) (by decide +kernel) (by omega)
  have e172 := e 172 (by decide +kernel) (by decide +kernel) (by omega)
  have e173 := e 173 (by decide +kernel) (by decide +kernel) (by omega)
  have e174 := e 174 (by decide +kernel) (by decide +kernel) (by omega)
  have e175 := e 175 (by decide +kernel) (by decide +kernel) (by omega)
  have e177 := e 177 (by decide +kernel) (by decide +kernel) (by omega)
  have e178 := e 178 (by decide +kernel) (by decide +kernel) (by omega)
  have e179 := e 179 (by decide +kernel) (by decide +kernel) (by omega)
  have e181 := e 181 (by decide +kernel) (by decide +kernel) (by omega)
  have e182 := e 182 (by decide +kernel) (by decide +kernel) (by omega)
  have e184 := e 184 (by decide +kernel) (by decide +kernel) (by omega)
  have e185 := e 185 (by decide +kernel) (by decide +kernel) (by omega)
  have e186 := e 186 (by decide +kernel) (by decide +kernel) (by omega)
  have e187 := e 187 (by decide +kernel) (by decide +kernel) (by omega)
  have e188 := e 188 (by decide +kernel) (by decide +kernel) (by omega)
  have e189 := e 189 (by decide +kernel) (by decide +kernel) (by omega)
  have e190 := e 190 (by decide +kernel) (by decide +kernel) (by omega)
  obtain ⟨⟨f153, f154, f155, f156, f157, f184, f185, f186, f187, f188, f189, f158, f159, f160, f161, f162, f163, f164, f165, f166, f167, f168, f169, f170, f172, f173, f174, f177, f178, f179, f180⟩, h2, h3, h4, h5, h6, h7, h8, h9, h10, h11, h12, h13⟩ := H
  refine ⟨⟨(e153.trans f153).trans e2.symm, (e154.trans f154).trans e3.symm, (e155.trans f155).trans e4.symm, (e156.trans f156).trans e6.symm, (e157.trans f157).trans e7.symm, (e184.trans f184).trans e8.symm, (e185.trans f185).trans e9.symm, (e186.trans f186).trans e10.symm, (e187.trans f187).trans e11.symm, (e188.trans f188).trans e12.symm, (e189.trans f189).trans e13.symm, (e158.trans f158).trans e19.symm, (e159.trans f159).trans e20.symm, (e160.trans f160).trans e21.symm, (e161.trans f161).trans e22.symm, (e162.trans f162).trans e23.symm, (e163.trans f163).trans e24.symm, (e164.trans f164).trans e25.symm, (e165.trans f165).trans e26.symm, (e166.trans f166).trans e27.symm, (e167.trans f167).trans e29.symm, (e168.trans f168).trans e30.symm, e169', (e170.trans f170).trans e32.symm, (e172.trans f172).trans e37.symm, (e173.trans f173).trans e38.symm, (e174.trans f174).trans e39.symm, (e177.trans f177).trans e107.symm, (e178.trans f178).trans e110.symm, (e179.trans f179).trans e108.symm, e180'⟩, hc, ?_, fr_edue e190 e15 e16 e17 h4, ?_, fr_ebar e40 e175 h6, fr_vld e2 e3 h7, fr_vch e6 h8, fr_vcd e19 e20 e21 e22 e24 e26 e27 h9, vlt_left (az_vlt_t h10) (fun j hj => h31 j hj) e29 e30 e32 e33, fr_vcp e37 e38 e39 h11, ?_, ?_⟩
  · unfold az_eend at h3 ⊢
    rw [e171, e33]
    exact h3
  · intro q hq j hj
    by_cases h1 : q = p
    · subst h1
      rw [h183 j hj, hrow j hj]
    · rw [h183' _ (by omega), ep q hq h1]
      exact h5 q hq j hj
  · intro q hq
    have hl : ∀ a b, az_lt I' a b = az_lt I a b := fun a b => by unfold az_lt; rw [e33, e30]
    obtain ⟨a1, a2, w, hw, a3, f, a4, a5, a6, a7⟩ := h12 q hq
    by_cases h1 : q = p
    · subst h1
      have hn60 := h2.2.2.1.2.2
      obtain ⟨F, F1, F2, F3, F4, F5, F6⟩ := pay_list hn60 (fun k hk => (a4 k hk).2) a5
      have hsub : ∀ j, j < 60 → (I (112 + q) j - D j).toInt = (I (112 + q) j).toInt - (D j).toInt := fun j hj => by
        have h8 := hD j hj
        have h9 := (I (112 + q) j).toInt_lt
        exact fb_subI (by omega) (by omega)
      have hf60 : ∀ k, k < w → f k < 60 := fun k hk => by have := (a4 k hk).2; omega
      rw [e107, h109, e181, e182, upde, if_pos rfl]
      refine ⟨a1, ⟨n', hn', rfl⟩, w, hw, a3, f, a4, fun k m hkm hm => by rw [hl]; exact a5 k m hkm hm, fun j hj => ?_, ?_⟩
      · rw [hrow j hj, hsub j hj]
        have h8 := hD j hj
        refine ⟨by omega, fun h => (a6 j hj).2 ?_⟩
        have := (a6 j hj).1
        omega
      · have hDF : fb_si (fun k => (D (f k)).toInt) w = fb_si (fun j => (D j).toInt) 60 := by
          have e1 : fb_si (fun k => (D (f k)).toInt) w = fb_si (fun k => (D (F.getD k 0)).toInt) F.length := by
            rw [F1]
            exact fb_si_cong fun k hk => by rw [F2 k hk]
          rw [e1, fb_smi (t := fun j => (D j).toInt) F]
          refine smi_all F4 (fun x hx => by have := F5 x hx; omega) (fun j hj hjF => ?_)
          have h8 := hD j hj
          have h9 : (I (112 + q) j).toInt = 0 := by
            apply Decidable.byContradiction
            intro h
            exact hjF ((F6 j).mpr ((a6 j hj).2 h))
          omega
        have e3 : fb_si (fun k => (I' (112 + q) (f k)).toInt) w = fb_si (fun k => (I (112 + q) (f k)).toInt - (D (f k)).toInt) w := fb_si_cong fun k hk => by rw [hrow _ (hf60 k hk), hsub _ (hf60 k hk)]
        rw [e3, fb_si_sub, hDF, ← a7, nI_toInt (by omega)]
        exact hsum
    · rw [e107, h109, e181, e182, upde, if_neg h1, ep q (by omega) h1]
      refine ⟨a1, a2, w, hw, a3, f, a4, fun k m hkm hm => by rw [hl]; exact a5 k m hkm hm, a6, a7⟩
  · intro q hq hq4
    obtain ⟨b1, b2⟩ := h13 q hq hq4
    refine ⟨by rw [e181]; exact b1, fun j hj => ?_⟩
    rw [h183' _ (by omega)]
    exact b2 j hj
