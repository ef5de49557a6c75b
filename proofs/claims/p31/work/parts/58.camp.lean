/-! campaigns: what can be got -/
section
variable {ap : Nat → Nat → Nat} {ls bm : Nat → Nat} {n : Nat}
/-- one behind the other -/
def fr (ap : Nat → Nat → Nat) (ls : Nat → Nat) : List Nat → Nat → Option Nat
  | [], p => some p
  | c :: l, p => if ls c ≤ p then fr ap ls l (ap c p) else none
theorem fr_snoc {c : Nat} {q : Nat} : ∀ {l : List Nat} {p : Nat}, fr ap ls (l ++ [c]) p = some q ↔ ∃ k, fr ap ls l p = some k ∧ ls c ≤ k ∧ q = ap c k := by
  intro l
  induction l with
  | nil =>
    intro p
    show (if ls c ≤ p then some (ap c p) else none) = some q ↔ _
    constructor
    · intro h
      split at h
      · rename_i h1
        refine ⟨p, rfl, h1, ?_⟩
        injection h with h
        exact h.symm
      · cases h
    · rintro ⟨k, h1, h2, h3⟩
      have : p = k := by injection h1
      subst this
      rw [if_pos h2, h3]
  | cons a l ih =>
    intro p
    show (if ls a ≤ p then fr ap ls (l ++ [c]) (ap a p) else none) = some q ↔ ∃ k, (if ls a ≤ p then fr ap ls l (ap a p) else none) = some k ∧ _
    by_cases h : ls a ≤ p
    · rw [if_pos h, if_pos h]
      exact ih
    · rw [if_neg h, if_neg h]
      constructor
      · intro h1; cases h1
      · rintro ⟨k, h1, -⟩; cases h1
theorem fr_le (ha : ∀ c k, ap c k ≤ k) {q : Nat} : ∀ {l : List Nat} {p : Nat}, fr ap ls l p = some q → q ≤ p := by
  intro l
  induction l with
  | nil => intro p h; injection h with h; omega
  | cons a l ih =>
    intro p h
    have h : (if ls a ≤ p then fr ap ls l (ap a p) else none) = some q := h
    split at h
    · have := ih h
      have := ha a p
      omega
    · cases h
/-- the least by orders, as the class looks for it -/
def LF (ap : Nat → Nat → Nat) (ls bm : Nat → Nat) (n : Nat) : Nat → Nat → Nat → Nat
  | 0, p, _ => p
  | f + 1, p, cl => fd (fun c s => if cl.testBit c = false then (if ls c ≤ p then (if ap c p < p then (if LF ap ls bm n f (ap c p) (sbb true cl c ||| bm c) < s then LF ap ls bm n f (ap c p) (sbb true cl c ||| bm c) else s) else s) else s) else s) n 0 p
theorem fd_min {h : Nat → Nat → Nat} (hd : ∀ c s, h c s ≤ s) (hm : ∀ c s s', s ≤ s' → h c s ≤ h c s') : ∀ m j s, fd h m j s ≤ s ∧ ∀ c, j ≤ c → c < j + m → fd h m j s ≤ h c s := by
  intro m
  induction m with
  | zero => intro j s; exact ⟨Nat.le_refl _, fun c h1 h2 => absurd h2 (by omega)⟩
  | succ m ih =>
    intro j s
    obtain ⟨h1, h2⟩ := ih (j + 1) (h j s)
    refine ⟨Nat.le_trans h1 (hd j s), fun c h3 h4 => ?_⟩
    by_cases h5 : c = j
    · subst h5; exact h1
    · exact Nat.le_trans (h2 c (by omega) (by omega)) (hm c _ _ (hd j s))
theorem LF_le_p : ∀ {f p cl : Nat}, LF ap ls bm n f p cl ≤ p := by
  intro f p cl
  cases f with
  | zero => exact Nat.le_refl _
  | succ f =>
    refine (fd_min (fun c s => ?_) (fun c s s' hs => ?_) n 0 p).1
    · repeat' split
      all_goals omega
    · repeat' split
      all_goals omega
theorem LF_step {f p cl c : Nat} (hc : c < n) (h1 : cl.testBit c = false) (h2 : ls c ≤ p) (h3 : ap c p < p) : LF ap ls bm n (f + 1) p cl ≤ LF ap ls bm n f (ap c p) (sbb true cl c ||| bm c) := by
  have h := (fd_min (h := fun c s => if cl.testBit c = false then (if ls c ≤ p then (if ap c p < p then (if LF ap ls bm n f (ap c p) (sbb true cl c ||| bm c) < s then LF ap ls bm n f (ap c p) (sbb true cl c ||| bm c) else s) else s) else s) else s) (fun c s => by (repeat' split) <;> omega) (fun c s s' hs => by (repeat' split) <;> omega) n 0 p).2 c (Nat.zero_le _) (by omega)
  refine Nat.le_trans h ?_
  rw [if_pos h1, if_pos h2, if_pos h3]
  split <;> omega
theorem LF_le (ha : ∀ c k, ap c k ≤ k) (hn : n ≤ 6) (hbm : ∀ c, c < n → bm c < 64) {q : Nat} : ∀ (l : List Nat) (f p cl : Nat), cl < 64 → l.length ≤ f → l.Nodup → (∀ c, c ∈ l → c < n ∧ cl.testBit c = false) → l.Pairwise (fun a b => (bm a).testBit b = false) → fr ap ls l p = some q → LF ap ls bm n f p cl ≤ q := by
  intro l
  induction l with
  | nil => intro f p cl _ _ _ _ _ h; injection h with h; rw [← h]; exact LF_le_p
  | cons c l ih =>
    intro f p cl hcl hf hnd hm hp h
    have h : (if ls c ≤ p then fr ap ls l (ap c p) else none) = some q := h
    rw [List.nodup_cons] at hnd
    rw [List.pairwise_cons] at hp
    split at h
    · rename_i hls
      by_cases hlt : ap c p < p
      · cases f with
        | zero => simp at hf
        | succ f =>
          obtain ⟨hc, hcc⟩ := hm c List.mem_cons_self
          refine Nat.le_trans (LF_step hc hcc hls hlt) (ih f _ _ ?_ (by simp at hf; omega) hnd.2 (fun x hx => ?_) hp.2 h)
          · exact Nat.or_lt_two_pow (n := 6) (sbb_l true cl c hcl (by omega)) (hbm c hc)
          · obtain ⟨h1, h2⟩ := hm x (List.mem_cons_of_mem _ hx)
            refine ⟨h1, ?_⟩
            rw [Nat.testBit_or, sbb_t _ _ _ _ hcl (by omega) (by omega), if_neg (ne_mem hnd.1 hx), h2, hp.1 x hx]
            rfl
      · have he : ap c p = p := by have := ha c p; omega
        rw [he] at h
        exact ih f p cl hcl (by simp at hf; omega) hnd.2 (fun x hx => hm x (List.mem_cons_of_mem _ hx)) hp.2 h
    · cases h
theorem LF_att (hn : n ≤ 6) (hbm : ∀ c, c < n → bm c < 64) : ∀ (f p cl : Nat), cl < 64 → ∃ l : List Nat, l.Nodup ∧ (∀ c, c ∈ l → c < n ∧ cl.testBit c = false) ∧ l.Pairwise (fun a b => (bm a).testBit b = false) ∧ fr ap ls l p = some (LF ap ls bm n f p cl) := by
  intro f
  induction f with
  | zero => intro p cl _; exact ⟨[], List.nodup_nil, by simp, List.Pairwise.nil, rfl⟩
  | succ f ih =>
    intro p cl hcl
    refine fd_inv (n := n) (Inv := fun _ s => ∃ l : List Nat, l.Nodup ∧ (∀ c, c ∈ l → c < n ∧ cl.testBit c = false) ∧ l.Pairwise (fun a b => (bm a).testBit b = false) ∧ fr ap ls l p = some s) ?_ n 0 p (Nat.zero_add _) ⟨[], List.nodup_nil, by simp, List.Pairwise.nil, rfl⟩
    intro c s hc hi
    split
    · rename_i h1
      split
      · rename_i h2
        split
        · rename_i h3
          split
          · have hcl' : sbb true cl c ||| bm c < 64 := Nat.or_lt_two_pow (n := 6) (sbb_l true cl c hcl (by omega)) (hbm c hc)
            obtain ⟨l, k1, k2, k3, k4⟩ := ih (ap c p) (sbb true cl c ||| bm c) hcl'
            have k5 : ∀ x, x ∈ l → x < n ∧ (if x = c then true else cl.testBit x) = false ∧ (bm c).testBit x = false := fun x hx => by
              obtain ⟨h4, h5⟩ := k2 x hx
              rw [Nat.testBit_or, sbb_t _ _ _ _ hcl (by omega) (by omega), Bool.or_eq_false_iff] at h5
              exact ⟨h4, h5.1, h5.2⟩
            have k6 : c ∉ l := fun hx => by have := (k5 c hx).2.1; rw [if_pos rfl] at this; cases this
            refine ⟨c :: l, List.nodup_cons.mpr ⟨k6, k1⟩, fun x hx => ?_, List.pairwise_cons.mpr ⟨fun x hx => (k5 x hx).2.2, k3⟩, ?_⟩
            · rcases List.mem_cons.mp hx with h4 | h4
              · rw [h4]; exact ⟨hc, h1⟩
              · have h5 := (k5 x h4).2.1
                rw [if_neg (ne_mem k6 h4)] at h5
                exact ⟨(k5 x h4).1, h5⟩
            · show (if ls c ≤ p then fr ap ls l (ap c p) else none) = _
              rw [if_pos h2]
              exact k4
          · exact hi
        · exact hi
      · exact hi
    · exact hi
/-- a set none of which bars another -/
def okS (bm : Nat → Nat) (n s : Nat) : Prop := ∀ a, a < n → ∀ b, b < n → s.testBit a = true → s.testBit b = true → (bm a).testBit b = false
/-- what can be got by just this set -/
def GP (ap : Nat → Nat → Nat) (ls bm : Nat → Nat) (n price s q : Nat) : Prop := okS bm n s ∧ ∃ l : List Nat, l.Nodup ∧ (∀ c, c ∈ l ↔ c < n ∧ s.testBit c = true) ∧ fr ap ls l price = some q
theorem GP_0 {price q : Nat} : GP ap ls bm n price 0 q ↔ q = price := by
  constructor
  · rintro ⟨-, l, -, h1, h2⟩
    have : l = [] := List.eq_nil_iff_forall_not_mem.mpr fun c hc => by
      have := ((h1 c).mp hc).2
      simp at this
    subst this
    injection h2 with h2
    exact h2.symm
  · intro h
    subst h
    exact ⟨fun a _ b _ h => by simp at h, [], List.nodup_nil, fun c => by simp, rfl⟩
theorem GP_step (hn : n ≤ 6) {price s q : Nat} (hs : s < 2 ^ n) (h0 : s ≠ 0) : GP ap ls bm n price s q ↔ okS bm n s ∧ ∃ c, c < n ∧ s.testBit c = true ∧ ∃ k, GP ap ls bm n price (sbb false s c) k ∧ ls c ≤ k ∧ q = ap c k := by
  have hs6 : s < 64 := Nat.lt_of_lt_of_le hs (Nat.pow_le_pow_right (by decide) hn : 2 ^ n ≤ 2 ^ 6)
  have hokc : ∀ c, c < n → okS bm n s → okS bm n (sbb false s c) := fun c hc hok a ha b hb h1 h2 => by
    rw [sbb_t _ _ _ _ hs6 (by omega) (by omega)] at h1 h2
    have h3 : s.testBit a = true := by split at h1; cases h1; exact h1
    have h4 : s.testBit b = true := by split at h2; cases h2; exact h2
    exact hok a ha b hb h3 h4
  constructor
  · rintro ⟨hok, l, hnd, hm, hf⟩
    refine ⟨hok, ?_⟩
    have hl : l ≠ [] := by
      intro h
      obtain ⟨i, hi⟩ := Nat.exists_testBit_of_ne_zero h0
      have hin : i < n := by
        apply Nat.lt_of_not_le
        intro hle
        rw [Nat.testBit_lt_two_pow (Nat.lt_of_lt_of_le hs (Nat.pow_le_pow_right (by decide) hle))] at hi
        cases hi
      have := (hm i).mpr ⟨hin, hi⟩
      rw [h] at this
      cases this
    obtain ⟨l', c, rfl⟩ : ∃ l' c, l = l' ++ [c] := ⟨l.dropLast, l.getLast hl, (List.dropLast_concat_getLast hl).symm⟩
    obtain ⟨hc, hcs⟩ := (hm c).mp (by simp)
    obtain ⟨k, h1, h2, h3⟩ := fr_snoc.mp hf
    refine ⟨c, hc, hcs, k, ⟨hokc c hc hok, l', ?_, fun x => ?_, h1⟩, h2, h3⟩
    · exact (List.nodup_append.mp hnd).1
    · have hcl : c ∉ l' := fun hcl => (List.nodup_append.mp hnd).2.2 c hcl c (by simp) rfl
      have hmx := hm x
      rw [List.mem_append, List.mem_singleton] at hmx
      constructor
      · intro hx
        obtain ⟨h4, h5⟩ := hmx.mp (Or.inl hx)
        refine ⟨h4, ?_⟩
        rw [sbb_t _ _ _ _ hs6 (by omega) (by omega), if_neg (ne_mem hcl hx)]
        exact h5
      · rintro ⟨h4, h5⟩
        rw [sbb_t _ _ _ _ hs6 (by omega) (by omega)] at h5
        split at h5
        · cases h5
        · rename_i h6
          rcases hmx.mpr ⟨h4, h5⟩ with h7 | h7
          · exact h7
          · exact absurd h7 h6
  · rintro ⟨hok, c, hc, hcs, k, ⟨-, l', hnd, hm, hf⟩, h2, h3⟩
    have hcl : c ∉ l' := fun hcl => by
      have := ((hm c).mp hcl).2
      rw [sbb_t _ _ _ _ hs6 (by omega) (by omega), if_pos rfl] at this
      cases this
    refine ⟨hok, l' ++ [c], ?_, fun x => ?_, fr_snoc.mpr ⟨k, hf, h2, h3⟩⟩
    · rw [List.nodup_append]
      refine ⟨hnd, by simp, fun a ha b hb hab => ?_⟩
      rw [List.mem_singleton] at hb
      subst hb
      subst hab
      exact hcl ha
    · rw [List.mem_append, List.mem_singleton, hm x]
      constructor
      · rintro (⟨h4, h5⟩ | h4)
        · refine ⟨h4, ?_⟩
          rw [sbb_t _ _ _ _ hs6 (by omega) (by omega)] at h5
          split at h5
          · cases h5
          · exact h5
        · subst h4; exact ⟨hc, hcs⟩
      · rintro ⟨h4, h5⟩
        by_cases h6 : x = c
        · exact Or.inr h6
        · refine Or.inl ⟨h4, ?_⟩
          rw [sbb_t _ _ _ _ hs6 (by omega) (by omega), if_neg h6]
          exact h5
/-- the set of a list -/
def sOf : List Nat → Nat
  | [] => 0
  | c :: l => sbb true (sOf l) c
theorem sOf_l : ∀ {l : List Nat}, (∀ c, c ∈ l → c < 6) → sOf l < 64 := by
  intro l
  induction l with
  | nil => intro _; decide
  | cons c l ih => intro h; exact sbb_l _ _ _ (ih fun x hx => h x (List.mem_cons_of_mem _ hx)) (h c List.mem_cons_self)
theorem sOf_t {l : List Nat} {x : Nat} (hx : x < 6) : (∀ c, c ∈ l → c < 6) → ((sOf l).testBit x = true ↔ x ∈ l) := by
  induction l with
  | nil => intro _; simp [sOf]
  | cons c l ih =>
    intro h
    have h1 : ∀ c, c ∈ l → c < 6 := fun x hx => h x (List.mem_cons_of_mem _ hx)
    show (sbb true (sOf l) c).testBit x = true ↔ _
    rw [sbb_t _ _ _ _ (sOf_l h1) (h c List.mem_cons_self) hx, List.mem_cons, ← ih h1]
    by_cases h2 : x = c <;> simp [h2]
theorem sOf_n {l : List Nat} (hn : n ≤ 6) (h : ∀ c, c ∈ l → c < n) : sOf l < 2 ^ n := by
  have h6 : ∀ c, c ∈ l → c < 6 := fun c hc => by have := h c hc; omega
  apply Nat.lt_pow_two_of_testBit
  intro i hi
  by_cases h7 : i < 6
  · rw [Bool.eq_false_iff]
    intro h8
    have := h i ((sOf_t h7 h6).mp h8)
    omega
  · exact Nat.testBit_lt_two_pow (Nat.lt_of_lt_of_le (sOf_l h6) (show 2 ^ 6 ≤ 2 ^ i from Nat.pow_le_pow_right (by decide) (by omega)))
/-- how many are in a set -/
def cs (s : Nat) : Nat := fb_ct (fun i => s.testBit i) 6
/-- the lowest of all, with the smallest set for it -/
def LX (T : Nat → Nat → Prop) (lo sz : Nat) : Prop := (∃ s, T s lo ∧ cs s = sz) ∧ ∀ s q, T s q → lo < q ∨ (lo = q ∧ sz ≤ cs s)
theorem LX_uniq {T : Nat → Nat → Prop} {a b a' b' : Nat} (h : LX T a b) (h' : LX T a' b') : a = a' ∧ b = b' := by
  obtain ⟨⟨s, h1, h2⟩, h3⟩ := h
  obtain ⟨⟨s', h1', h2'⟩, h3'⟩ := h'
  have k1 := h3 _ _ h1'
  have k2 := h3' _ _ h1
  omega
theorem LX_cg {T T' : Nat → Nat → Prop} {a b : Nat} (h : LX T a b) (e : ∀ s q, T s q ↔ T' s q) : LX T' a b := by
  obtain ⟨⟨s, h1, h2⟩, h3⟩ := h
  exact ⟨⟨s, (e _ _).mp h1, h2⟩, fun s q hq => h3 s q ((e _ _).mpr hq)⟩
theorem LX_add {T : Nat → Nat → Prop} {lo sz s q : Nat} (h : LX T lo sz) : LX (fun s' q' => T s' q' ∨ (s' = s ∧ q' = q)) (if q < lo then q else if q = lo then (if cs s < sz then q else lo) else lo) (if q < lo then cs s else if q = lo then (if cs s < sz then cs s else sz) else sz) := by
  obtain ⟨⟨s0, h1, h2⟩, h3⟩ := h
  by_cases a1 : q < lo
  · simp only [a1, if_true]
    refine ⟨⟨s, Or.inr ⟨rfl, rfl⟩, rfl⟩, fun s' q' hq => ?_⟩
    rcases hq with hq | ⟨rfl, rfl⟩
    · have := h3 _ _ hq; omega
    · exact Or.inr ⟨rfl, Nat.le_refl _⟩
  · by_cases a2 : q = lo
    · subst a2
      simp only [Nat.lt_irrefl, if_false, if_true]
      by_cases a3 : cs s < sz
      · simp only [a3, if_true]
        refine ⟨⟨s, Or.inr ⟨rfl, rfl⟩, rfl⟩, fun s' q' hq => ?_⟩
        rcases hq with hq | ⟨rfl, rfl⟩
        · have := h3 _ _ hq; omega
        · exact Or.inr ⟨rfl, Nat.le_refl _⟩
      · simp only [a3, if_false]
        refine ⟨⟨s0, Or.inl h1, h2⟩, fun s' q' hq => ?_⟩
        rcases hq with hq | ⟨rfl, rfl⟩
        · exact h3 _ _ hq
        · exact Or.inr ⟨rfl, by omega⟩
    · simp only [a1, a2, if_false]
      refine ⟨⟨s0, Or.inl h1, h2⟩, fun s' q' hq => ?_⟩
      rcases hq with hq | ⟨rfl, rfl⟩
      · exact h3 _ _ hq
      · exact Or.inl (by omega)
/-- both ways get the same -/
theorem LX_LF (ha : ∀ c k, ap c k ≤ k) (hn : n ≤ 6) (hbm : ∀ c, c < n → bm c < 64) (hself : ∀ c, c < n → (bm c).testBit c = false) (hsym : ∀ a, a < n → ∀ b, b < n → (bm a).testBit b = (bm b).testBit a) {price lo sz : Nat} (h : LX (fun s q => s < 2 ^ n ∧ GP ap ls bm n price s q) lo sz) : lo = LF ap ls bm n 6 price 0 := by
  obtain ⟨⟨s, ⟨hs, hok, l, hnd, hm, hf⟩, -⟩, h2⟩ := h
  have h3 : LF ap ls bm n 6 price 0 ≤ lo := by
    refine LF_le ha hn hbm l 6 price 0 (by decide) ?_ hnd (fun c hc => ⟨((hm c).mp hc).1, by simp⟩) ?_ hf
    · exact Nat.le_trans (nd_len hnd fun c hc => ((hm c).mp hc).1) hn
    · refine List.Pairwise.imp_of_mem ?_ hnd
      intro a b ha hb _
      obtain ⟨a1, a2⟩ := (hm a).mp ha
      obtain ⟨b1, b2⟩ := (hm b).mp hb
      exact hok a a1 b b1 a2 b2
  obtain ⟨l, k1, k2, k3, k4⟩ := LF_att (ap := ap) (ls := ls) (n := n) hn hbm 6 price 0 (by decide)
  have k5 : ∀ c, c ∈ l → c < n := fun c hc => (k2 c hc).1
  have k6 : ∀ c, c ∈ l → c < 6 := fun c hc => by have := k5 c hc; omega
  have h4 := h2 (sOf l) (LF ap ls bm n 6 price 0) ⟨sOf_n hn k5, ⟨fun a ha b hb h5 h6 => ?_, l, k1, fun c => ?_, k4⟩⟩
  · omega
  · have h7 := (sOf_t (by omega) k6).mp h5
    have h8 := (sOf_t (by omega) k6).mp h6
    by_cases h9 : a = b
    · subst h9; exact hself a ha
    · obtain ⟨i, hi, ei⟩ := List.getElem_of_mem h7
      obtain ⟨j, hj, ej⟩ := List.getElem_of_mem h8
      have k3' := List.pairwise_iff_getElem.mp k3
      rcases Nat.lt_trichotomy i j with h10 | h10 | h10
      · have := k3' i j hi hj h10
        rw [ei, ej] at this
        exact this
      · subst h10
        exact absurd (ei.symm.trans ej) h9
      · have := k3' j i hj hi h10
        rw [ei, ej] at this
        rw [hsym a ha b hb]
        exact this
  · constructor
    · intro hc; exact ⟨k5 c hc, (sOf_t (k6 c hc) k6).mpr hc⟩
    · rintro ⟨h5, h6⟩; exact (sOf_t (by omega) k6).mp h6
end
