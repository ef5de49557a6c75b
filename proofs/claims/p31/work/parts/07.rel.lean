/-! the small machine's cells as a world of the machine -/
def az_c (ad : Nat → Nat) : Value → Value
  | .ref a => .ref (ad a)
  | v => v
def az_ok (n : Nat) : Value → Prop
  | .ref a => a < n ∨ a = az_scr
  | _ => True
def az_fv (ad : Nat → Nat) (x : Int32) : Option (Option Nat) → Value
  | none => .int x
  | some r => va_rf (r.map ad)
def az_E (cy : Nat → ClassId) (ad : Nat → Nat) (I : Nat → Nat → Int32) (J : Nat → Nat → Int64) (a : Nat) (sh : az_Shp) : va_E := match sh.1 with
  | 0 => .inr (sh.2.1, (List.range sh.2.2.length).map fun j => az_fv ad (I a j) (sh.2.2.getD j none))
  | 1 => .inl (cy 0, sh.2.1, .inl (I a))
  | 2 => .inl (cy 1, sh.2.1, .inl (I a))
  | 3 => .inl (cy 2, sh.2.1, .inr (.inl (J a)))
  | _ => .inl (cy 3, sh.2.1, .inr (.inr (.inr (.inr fun j => ((sh.2.2.getD j none).getD none).map ad))))
def az_w (cy : Nat → ClassId) (ad : Nat → Nat) (G : az_G) : va_W := (List.range G.1.length).map fun a => (ad a, az_E cy ad G.2.1 G.2.2.1 a (G.1.getD a (0, 0, [])))
def az_wf (S : List az_Shp) : Prop := ∀ sh ∈ S, ∀ r : Nat, some (some r) ∈ sh.2.2 → r < S.length
def az_tl (cy : Nat → ClassId) : List (ClassId × FieldType) := [(cy 0, .int), (cy 1, .boolean), (cy 2, .int), (cy 3, .array .int)]
def az_Lr (ad : Nat → Nat) (n : Nat) (L : az_Ls) (ls : Array Slot) : Prop := ls.size = L.length ∧ lv_wf ls ∧ ∀ (i : Nat) (v : Value), L[i]? = some (some v) → v.category = 1 ∧ az_ok n v ∧ ls[i]? = some (.val (az_c ad v))
def az_ag (ad0 : Nat → Nat) (n0 : Nat) (ad : Nat → Nat) : Prop := (∀ i : Nat, i < n0 → ad i = ad0 i) ∧ ad az_scr = ad0 az_scr
/-- the small machine stands where the machine stands -/
def az_at (D : va_G) (cy : Nat → ClassId) (A : Nat → Prop) (H0 : Heap) (ad0 : Nat → Nat) (n0 c0 s0 : Nat) (ad : Nat → Nat) (L : az_Ls) (ls : Array Slot) (st : List Value) (G : az_G) (H : Heap) (locs : List Loc) (cells slots : Nat) : Prop :=
  (az_Lr ad G.1.length L ls ∧ (∀ v ∈ st, az_ok G.1.length v)) ∧ az_wf G.1 ∧ va_P D az_cl (az_w cy ad G) H ∧ va_D A (az_w cy ad G) ∧ va_S A H0 H locs ∧ az_ag ad0 n0 ad ∧ (n0 ≤ G.1.length ∧ cells + c0 = G.2.2.2.1 ∧ slots + s0 = G.2.2.2.2 ∧ G.1.length ≤ 300000)
theorem az_w_len (cy : Nat → ClassId) (ad : Nat → Nat) (G : az_G) : (az_w cy ad G).length = G.1.length := by simp [az_w]
theorem az_w_get {cy : Nat → ClassId} {ad : Nat → Nat} {G : az_G} {a : Nat} {sh : az_Shp} (h : G.1[a]? = some sh) : (az_w cy ad G)[a]? = some (ad a, az_E cy ad G.2.1 G.2.2.1 a sh) := by
  have hl : a < G.1.length := (List.getElem?_eq_some_iff.mp h).1
  unfold az_w
  rw [List.getElem?_map, List.getElem?_range hl]
  simp [List.getD, h]
theorem az_w_set {cy : Nat → ClassId} {ad : Nat → Nat} {G G' : az_G} {a : Nat} {e : va_E} (hl : G'.1.length = G.1.length)
    (ho : ∀ b : Nat, b ≠ a → az_E cy ad G'.2.1 G'.2.2.1 b (G'.1.getD b (0, 0, [])) = az_E cy ad G.2.1 G.2.2.1 b (G.1.getD b (0, 0, []))) (he : e = az_E cy ad G'.2.1 G'.2.2.1 a (G'.1.getD a (0, 0, []))) :
    (az_w cy ad G).set a (ad a, e) = az_w cy ad G' := by
  apply List.ext_getElem?
  intro i
  by_cases h : i = a
  · subst h
    by_cases hi : i < G.1.length
    · rw [List.getElem?_set_self (by rw [az_w_len]; exact hi)]
      unfold az_w
      rw [List.getElem?_map, List.getElem?_range (by rw [hl]; exact hi), he]
      rfl
    · rw [List.getElem?_eq_none (by rw [List.length_set, az_w_len]; omega), List.getElem?_eq_none (by rw [az_w_len]; omega)]
  · rw [List.getElem?_set_ne (Ne.symm h)]
    unfold az_w
    rw [List.getElem?_map, List.getElem?_map, hl]
    by_cases hi : i < G.1.length
    · rw [List.getElem?_range hi]
      simp only [Option.map_some]
      rw [ho i h]
    · rw [List.getElem?_eq_none (by rw [List.length_range]; omega)]
      rfl
theorem az_E_ad {cy : Nat → ClassId} {ad ad' : Nat → Nat} {I : Nat → Nat → Int32} {J : Nat → Nat → Int64} {a : Nat} {sh : az_Shp} (h : ∀ r : Nat, some (some r) ∈ sh.2.2 → ad' r = ad r) : az_E cy ad' I J a sh = az_E cy ad I J a sh := by
  have key : ∀ j : Nat, ((sh.2.2.getD j none).getD none).map ad' = ((sh.2.2.getD j none).getD none).map ad := by
    intro j
    cases hj : sh.2.2[j]? with
    | none => simp [List.getD, hj]
    | some o =>
      cases o with
      | none => simp [List.getD, hj]
      | some r =>
        cases r with
        | none => simp [List.getD, hj]
        | some r => simp [List.getD, hj, h r (List.mem_of_getElem? hj)]
  have key2 : ∀ j : Nat, az_fv ad' (I a j) (sh.2.2.getD j none) = az_fv ad (I a j) (sh.2.2.getD j none) := by
    intro j
    have hk := key j
    cases hj : sh.2.2.getD j none with
    | none => rfl
    | some r =>
      rw [hj] at hk
      simp only [Option.getD_some] at hk
      simp only [az_fv, hk]
  unfold az_E
  split
  · simp only [key2]
  · rfl
  · rfl
  · rfl
  · simp only [key]
theorem az_c_ad {ad ad' : Nat → Nat} {n : Nat} (h1 : ∀ i : Nat, i < n → ad' i = ad i) (h2 : ad' az_scr = ad az_scr) {v : Value} (hv : az_ok n v) : az_c ad' v = az_c ad v := by
  cases v with
  | ref a =>
    rcases hv with h | h
    · simp only [az_c, h1 a h]
    · subst h
      simp only [az_c, h2]
  | _ => rfl
theorem az_map_ad {ad ad' : Nat → Nat} {n : Nat} (h1 : ∀ i : Nat, i < n → ad' i = ad i) (h2 : ad' az_scr = ad az_scr) {st : List Value} (hv : ∀ v ∈ st, az_ok n v) : st.map (az_c ad') = st.map (az_c ad) :=
  List.map_congr_left fun v h => az_c_ad h1 h2 (hv v h)
theorem az_ok_mono {n n' : Nat} (h : n ≤ n') {v : Value} (hv : az_ok n v) : az_ok n' v := by
  cases v with
  | ref a =>
    rcases hv with q | q
    · exact Or.inl (Nat.lt_of_lt_of_le q h)
    · exact Or.inr q
  | _ => trivial
theorem az_Lr_ad {ad ad' : Nat → Nat} {n n' : Nat} (hn : n ≤ n') (h1 : ∀ i : Nat, i < n → ad' i = ad i) (h2 : ad' az_scr = ad az_scr) {L : az_Ls} {ls : Array Slot} (h : az_Lr ad n L ls) : az_Lr ad' n' L ls :=
  ⟨h.1, h.2.1, fun i v hi => by
    obtain ⟨q1, q2, q3⟩ := h.2.2 i v hi
    exact ⟨q1, az_ok_mono hn q2, by rw [az_c_ad h1 h2 q2]; exact q3⟩⟩
theorem az_cat1 {ad : Nat → Nat} {v : Value} : (az_c ad v).category = v.category := by cases v <;> rfl
theorem az_cats {ad : Nat → Nat} {st : List Value} : ((st.map (az_c ad)).map fun v => v.category).sum = az_cat st := by
  unfold az_cat
  rw [List.map_map]
  congr 1
  exact List.map_congr_left fun v _ => az_cat1
/-- the locals as the kit's list -/
def az_pr (ad : Nat → Nat) (L : az_Ls) : List (Nat × Value) := (List.range L.length).filterMap fun i => match L[i]? with
  | some (some v) => some (i, az_c ad v)
  | _ => none
theorem az_pr_mem {ad : Nat → Nat} {L : az_Ls} {q : Nat × Value} : q ∈ az_pr ad L ↔ ∃ v, L[q.1]? = some (some v) ∧ q.2 = az_c ad v := by
  unfold az_pr
  rw [List.mem_filterMap]
  constructor
  · rintro ⟨i, -, hi⟩
    cases hL : L[i]? with
    | none => rw [hL] at hi; cases hi
    | some o =>
      cases o with
      | none => rw [hL] at hi; cases hi
      | some v => rw [hL] at hi; cases hi; exact ⟨v, hL, rfl⟩
  · rintro ⟨v, h1, h2⟩
    refine ⟨q.1, List.mem_range.mpr (List.getElem?_eq_some_iff.mp h1).1, ?_⟩
    rw [h1]
    simp only [Option.some.injEq]
    rw [← h2]
theorem az_pr_has {ad : Nat → Nat} {n : Nat} {L : az_Ls} {ls : Array Slot} (h : az_Lr ad n L ls) : lv_has ls L.length (az_pr ad L) :=
  ⟨h.1, h.2.1, fun q hq => by
    obtain ⟨v, h1, h2⟩ := az_pr_mem.mp hq
    rw [h2]
    exact (h.2.2 q.1 v h1).2.2⟩
/-- behind a store -/
theorem az_Lr_set {ad : Nat → Nat} {n i : Nat} {L : az_Ls} {ls ls' : Array Slot} {v : Value} (hL : az_Lr ad n L ls) (hv : v.category = 1) (hok : az_ok n v)
    (h : lv_has ls' L.length ((i, az_c ad v) :: (az_pr ad L).filter (fun q => !(q.1 == i) && !(q.1 + 1 == i && q.2.category == 2)))) : az_Lr ad n (L.set i (some v)) ls' := by
  refine ⟨by rw [List.length_set]; exact h.1, h.2.1, fun j w hj => ?_⟩
  by_cases hij : i = j
  · subst hij
    have hlt : i < L.length := by
      have := (List.getElem?_eq_some_iff.mp hj).1
      rwa [List.length_set] at this
    rw [List.getElem?_set_self hlt] at hj
    cases hj
    exact ⟨hv, hok, h.2.2 (i, az_c ad v) List.mem_cons_self⟩
  · rw [List.getElem?_set_ne hij] at hj
    obtain ⟨q1, q2, q3⟩ := hL.2.2 j w hj
    refine ⟨q1, q2, h.2.2 (j, az_c ad w) (List.mem_cons_of_mem _ (List.mem_filter.mpr ⟨az_pr_mem.mpr ⟨w, hj, rfl⟩, ?_⟩))⟩
    have h1 : (j == i) = false := by simp [Ne.symm hij]
    have h2 : ((az_c ad w).category == 2) = false := by rw [az_cat1, q1]; rfl
    simp only [h1, h2, Bool.and_false, Bool.not_false, Bool.and_self]
theorem az_Lr_unset {ad : Nat → Nat} {n i : Nat} {L : az_Ls} {ls ls' : Array Slot} {v : Value} (hL : az_Lr ad n L ls)
    (h : lv_has ls' L.length ((i, v) :: (az_pr ad L).filter (fun q => !(q.1 == i) && !(q.1 + 1 == i && q.2.category == 2)))) : az_Lr ad n (L.set i none) ls' := by
  refine ⟨by rw [List.length_set]; exact h.1, h.2.1, fun j w hj => ?_⟩
  by_cases hij : i = j
  · subst hij
    have hlt : i < L.length := by
      have := (List.getElem?_eq_some_iff.mp hj).1
      rwa [List.length_set] at this
    rw [List.getElem?_set_self hlt] at hj
    cases hj
  · rw [List.getElem?_set_ne hij] at hj
    obtain ⟨q1, q2, q3⟩ := hL.2.2 j w hj
    refine ⟨q1, q2, h.2.2 (j, az_c ad w) (List.mem_cons_of_mem _ (List.mem_filter.mpr ⟨az_pr_mem.mpr ⟨w, hj, rfl⟩, ?_⟩))⟩
    have h1 : (j == i) = false := by simp [Ne.symm hij]
    have h2 : ((az_c ad w).category == 2) = false := by rw [az_cat1, q1]; rfl
    simp only [h1, h2, Bool.and_false, Bool.not_false, Bool.and_self]
theorem az_in_iff {x : Int32} {n : Nat} : az_in x n = true ↔ vp_in x n := by simp [az_in, vp_in]
