/-! lists in an order -/
theorem fd_rel {α β : Type} {Rl : Nat → α → β → Prop} {h : Nat → α → α} {g : Nat → β → β} {n : Nat} (hI : ∀ j s t, j < n → Rl j s t → Rl (j + 1) (h j s) (g j t)) : ∀ m j s t, j + m = n → Rl j s t → Rl n (fd h m j s) (fd g m j t) := by
  intro m
  induction m with
  | zero =>
    intro j s t hj hi
    rw [show n = j by omega]
    exact hi
  | succ m ih =>
    intro j s t hj hi
    exact ih (j + 1) (h j s) (g j t) (by omega) (hI j s t (by omega) hi)
theorem fd_cg {α : Type} {h g : Nat → α → α} {n : Nat} (hI : ∀ j s, j < n → h j s = g j s) : ∀ m j s, j + m = n → fd h m j s = fd g m j s := by
  intro m
  induction m with
  | zero => intro j s _; rfl
  | succ m ih =>
    intro j s hj
    show fd h m (j + 1) (h j s) = fd g m (j + 1) (g j s)
    rw [hI j s (by omega), ih (j + 1) _ (by omega)]
theorem fd_fl {α : Type} (h : Nat → α → α) : ∀ (L A : List Nat) (s : α), fd (fun j s => h ((A ++ L).getD j 0) s) L.length A.length s = L.foldl (fun s x => h x s) s := by
  intro L
  induction L with
  | nil => intro A s; rfl
  | cons x L ih =>
    intro A s
    show fd (fun j s => h ((A ++ x :: L).getD j 0) s) L.length (A.length + 1) (h ((A ++ x :: L).getD A.length 0) s) = L.foldl (fun s x => h x s) (h x s)
    have e1 : (A ++ x :: L).getD A.length 0 = x := by simp
    have e2 := ih (A ++ [x]) (h x s)
    rw [show (A ++ [x]) ++ L = A ++ x :: L by simp, show (A ++ [x]).length = A.length + 1 by simp] at e2
    rw [e1, e2]
def insR (lt : Nat → Nat → Bool) (x : Nat) : List Nat → List Nat
  | [] => [x]
  | y :: R => if lt x y = true then y :: insR lt x R else x :: y :: R
section
variable {lt : Nat → Nat → Bool}
theorem insR_mem {x z : Nat} : ∀ {R : List Nat}, z ∈ insR lt x R ↔ z = x ∨ z ∈ R := by
  intro R
  induction R with
  | nil => simp [insR]
  | cons y R ih =>
    unfold insR
    split
    · simp only [List.mem_cons, ih]
      constructor
      · rintro (h | h | h) <;> simp [h]
      · rintro (h | h | h) <;> simp [h]
    · simp only [List.mem_cons]
theorem insR_len {x : Nat} : ∀ {R : List Nat}, (insR lt x R).length = R.length + 1 := by
  intro R
  induction R with
  | nil => rfl
  | cons y R ih =>
    unfold insR
    split
    · simp [ih]
    · rfl
theorem insR_srt (ht : ∀ a b c, lt a b = true → lt b c = true → lt a c = true) (htot : ∀ a b, a ≠ b → lt a b = true ∨ lt b a = true) {x : Nat} : ∀ {R : List Nat}, R.Pairwise (fun a b => lt b a = true) → x ∉ R → (insR lt x R).Pairwise (fun a b => lt b a = true) := by
  intro R
  induction R with
  | nil => intro _ _; simp [insR]
  | cons y R ih =>
    intro hp hx
    rw [List.pairwise_cons] at hp
    rw [List.mem_cons, not_or] at hx
    unfold insR
    split
    · rename_i h
      rw [List.pairwise_cons]
      refine ⟨fun z hz => ?_, ih hp.2 hx.2⟩
      rcases insR_mem.mp hz with h1 | h1
      · rw [h1]; exact h
      · exact hp.1 z h1
    · rename_i h
      have h1 : lt y x = true := by
        rcases htot x y hx.1 with h2 | h2
        · exact absurd h2 h
        · exact h2
      rw [List.pairwise_cons, List.pairwise_cons]
      refine ⟨fun z hz => ?_, hp⟩
      rcases List.mem_cons.mp hz with h2 | h2
      · rw [h2]; exact h1
      · exact ht z y x (hp.1 z h2) h1
theorem srt_uniq (hir : ∀ a, lt a a = false) (ht : ∀ a b c, lt a b = true → lt b c = true → lt a c = true) : ∀ {A B : List Nat}, A.Pairwise (fun a b => lt b a = true) → B.Pairwise (fun a b => lt b a = true) → (∀ z, z ∈ A ↔ z ∈ B) → A = B := by
  intro A
  induction A with
  | nil =>
    intro B _ _ h
    cases B with
    | nil => rfl
    | cons b B => exact absurd ((h b).mpr List.mem_cons_self) (by simp)
  | cons a A ih =>
    intro B hA hB h
    cases B with
    | nil => exact absurd ((h a).mp List.mem_cons_self) (by simp)
    | cons b B =>
      rw [List.pairwise_cons] at hA hB
      have hab : a = b := by
        rcases List.mem_cons.mp ((h a).mp List.mem_cons_self) with h1 | h1
        · exact h1
        · rcases List.mem_cons.mp ((h b).mpr List.mem_cons_self) with h2 | h2
          · exact h2.symm
          · have := ht a b a (hB.1 a h1) (hA.1 b h2)
            rw [hir] at this
            cases this
      subst hab
      congr 1
      refine ih hA.2 hB.2 fun z => ?_
      constructor
      · intro hz
        rcases List.mem_cons.mp ((h z).mp (List.mem_cons_of_mem _ hz)) with h1 | h1
        · subst h1
          have := hA.1 z hz
          rw [hir] at this
          cases this
        · exact h1
      · intro hz
        rcases List.mem_cons.mp ((h z).mpr (List.mem_cons_of_mem _ hz)) with h1 | h1
        · subst h1
          have := hB.1 z hz
          rw [hir] at this
          cases this
        · exact h1
theorem srt_nodup (hir : ∀ a, lt a a = false) : ∀ {A : List Nat}, A.Pairwise (fun a b => lt b a = true) → A.Nodup := by
  intro A h
  refine h.imp ?_
  intro a b hab he
  subst he
  rw [hir] at hab
  cases hab
def ordR (lt : Nat → Nat → Bool) (P : Nat → Bool) (n : Nat) : List Nat := fd (fun j R => if P j = true then insR lt j R else R) n 0 []
theorem ordR_spec (ht : ∀ a b c, lt a b = true → lt b c = true → lt a c = true) (htot : ∀ a b, a ≠ b → lt a b = true ∨ lt b a = true) {P : Nat → Bool} {n : Nat} : (∀ z, z ∈ ordR lt P n ↔ z < n ∧ P z = true) ∧ (ordR lt P n).Pairwise (fun a b => lt b a = true) := by
  refine fd_inv (n := n) (Inv := fun j R => (∀ z, z ∈ R ↔ z < j ∧ P z = true) ∧ R.Pairwise (fun a b => lt b a = true)) ?_ n 0 [] (Nat.zero_add _) ⟨fun z => by simp, List.Pairwise.nil⟩
  rintro j R hj ⟨h1, h2⟩
  split
  · rename_i hp
    refine ⟨fun z => ?_, insR_srt ht htot h2 (fun h => absurd ((h1 j).mp h).1 (by omega))⟩
    rw [insR_mem, h1]
    constructor
    · rintro (h | h)
      · subst h; exact ⟨by omega, hp⟩
      · exact ⟨by omega, h.2⟩
    · rintro ⟨h3, h4⟩
      by_cases h5 : z = j
      · exact Or.inl h5
      · exact Or.inr ⟨by omega, h4⟩
  · rename_i hp
    refine ⟨fun z => ?_, h2⟩
    rw [h1]
    constructor
    · rintro ⟨h3, h4⟩; exact ⟨by omega, h4⟩
    · rintro ⟨h3, h4⟩
      refine ⟨?_, h4⟩
      by_cases h5 : z = j
      · subst h5; exact absurd h4 hp
      · omega
def enc (f : Nat → Int32) : List Nat → Prop
  | [] => True
  | y :: R => f R.length = nI y ∧ enc f R
theorem enc_cg {f g : Nat → Int32} : ∀ {R : List Nat}, (∀ k, k < R.length → f k = g k) → enc f R → enc g R := by
  intro R
  induction R with
  | nil => intro _ _; trivial
  | cons y R ih =>
    intro h he
    exact ⟨by rw [← h R.length (by simp)]; exact he.1, ih (fun k hk => h k (by simp; omega)) he.2⟩
theorem enc_get {f : Nat → Int32} : ∀ {R : List Nat}, enc f R → ∀ k, k < R.length → f k = nI (R.reverse.getD k 0) := by
  intro R
  induction R with
  | nil => intro _ k hk; exact absurd hk (by simp)
  | cons y R ih =>
    intro he k hk
    rw [List.reverse_cons]
    by_cases h : k < R.length
    · rw [ih he.2 k h, List.getD_eq_getElem?_getD, List.getD_eq_getElem?_getD, List.getElem?_append_left (by simpa using h)]
    · have hk2 : k = R.length := by simp at hk; omega
      subst hk2
      rw [he.1]
      simp [List.getD]
def pir (lt : Nat → Nat → Bool) (x : Nat) : Nat → (Nat → Int32) → (Nat → Int32)
  | 0, f => upd f 0 (nI x)
  | p + 1, f => if lt x (f p).toNatClampNeg = true then pir lt x p (upd f (p + 1) (f p)) else upd f (p + 1) (nI x)
theorem pir_out {x : Nat} : ∀ (p : Nat) (f : Nat → Int32) (k : Nat), p < k → pir lt x p f k = f k := by
  intro p
  induction p with
  | zero =>
    intro f k hk
    unfold pir
    rw [upde, if_neg (by omega)]
  | succ p ih =>
    intro f k hk
    unfold pir
    split
    · rw [ih _ _ (by omega), upde, if_neg (by omega)]
    · rw [upde, if_neg (by omega)]
theorem pir_enc {x : Nat} : ∀ (R : List Nat) (f : Nat → Int32), (∀ z, z ∈ R → z < 2 ^ 31) → enc f R → enc (pir lt x R.length f) (insR lt x R) := by
  intro R
  induction R with
  | nil => intro f _ _; exact ⟨by simp [pir, upde], trivial⟩
  | cons y R ih =>
    intro f hz he
    have hy : (f R.length).toNatClampNeg = y := by rw [he.1, nI_clamp (hz y List.mem_cons_self)]
    show enc (if lt x (f R.length).toNatClampNeg = true then pir lt x R.length (upd f (R.length + 1) (f R.length)) else upd f (R.length + 1) (nI x)) (if lt x y = true then y :: insR lt x R else x :: y :: R)
    rw [hy]
    split
    · refine ⟨?_, ih _ (fun z h => hz z (List.mem_cons_of_mem _ h)) (enc_cg (fun k hk => by rw [upde, if_neg (by omega)]) he.2)⟩
      rw [insR_len, pir_out _ _ _ (by omega), upde, if_pos rfl, he.1]
    · refine ⟨by simp [upde], ?_, enc_cg (fun k hk => by rw [upde, if_neg (by omega)]) he.2⟩
      rw [upde, if_neg (by omega), he.1]
/-- what the class does with its row -/
def pio (lt : Nat → Nat → Bool) (P : Nat → Bool) (j : Nat) (s : (Nat → Int32) × Nat) : (Nat → Int32) × Nat := if P j = true then (pir lt j s.2 s.1, s.2 + 1) else s
theorem pio_spec (ht : ∀ a b c, lt a b = true → lt b c = true → lt a c = true) (htot : ∀ a b, a ≠ b → lt a b = true ∨ lt b a = true) {P : Nat → Bool} {n : Nat} (hn : n < 2 ^ 31) (f : Nat → Int32) : (fd (pio lt P) n 0 (f, 0)).2 = (ordR lt P n).length ∧ enc (fd (pio lt P) n 0 (f, 0)).1 (ordR lt P n) := by
  have h := fd_rel (n := n) (h := pio lt P) (g := fun j R => if P j = true then insR lt j R else R) (Rl := fun j s R => j ≤ n ∧ (∀ z, z ∈ R → z < j) ∧ s.2 = R.length ∧ enc s.1 R) ?_ n 0 (f, 0) [] (Nat.zero_add _) ⟨Nat.zero_le _, by simp, rfl, trivial⟩
  · exact h.2.2
  · rintro j s R hj ⟨-, h1, h2, h3⟩
    unfold pio
    split
    · refine ⟨hj, fun z hz => ?_, by rw [insR_len, h2], ?_⟩
      · rcases insR_mem.mp hz with h4 | h4
        · omega
        · have := h1 z h4; omega
      · rw [h2]
        exact pir_enc R s.1 (fun z hz => by have := h1 z hz; omega) h3
    · exact ⟨hj, fun z hz => by have := h1 z hz; omega, h2, h3⟩
end
/-- a lot ahead of another -/
def ltb (e o : Nat → Int32) (a b : Nat) : Bool := if e a = e b then (if o a = o b then decide (a < b) else decide (o b < o a)) else decide (e a < e b)
theorem ltb_iff {e o : Nat → Int32} {a b : Nat} : ltb e o a b = true ↔ (e a).toInt < (e b).toInt ∨ ((e a).toInt = (e b).toInt ∧ ((o b).toInt < (o a).toInt ∨ ((o a).toInt = (o b).toInt ∧ a < b))) := by
  unfold ltb
  simp only [← Int32.toInt_inj, Int32.lt_iff_toInt_lt]
  split
  · split
    · simp only [decide_eq_true_eq]; omega
    · simp only [decide_eq_true_eq]; omega
  · simp only [decide_eq_true_eq]; omega
theorem ltb_t {e o : Nat → Int32} : ∀ a b c, ltb e o a b = true → ltb e o b c = true → ltb e o a c = true := by
  intro a b c
  simp only [ltb_iff]
  omega
theorem ltb_ir {e o : Nat → Int32} : ∀ a, ltb e o a a = false := by
  intro a
  rw [Bool.eq_false_iff]
  intro h
  rw [ltb_iff] at h
  omega
theorem ltb_tot {e o : Nat → Int32} : ∀ a b, a ≠ b → ltb e o a b = true ∨ ltb e o b a = true := by
  intro a b
  simp only [ltb_iff]
  omega
/-- the first of all, as the reference looks for it -/
def ffst (lt : Nat → Nat → Bool) (P : Nat → Bool) (k : Nat) (s : Int32) : Int32 := if P k = true then (if s = -1 then nI k else if lt k s.toNatClampNeg = true then nI k else s) else s
theorem nI_ne1 {y : Nat} (hy : y < 2 ^ 31) : nI y ≠ -1 := by
  intro h
  have := congrArg Int32.toInt h
  rw [nI_toInt hy, show (-1 : Int32).toInt = -1 by decide] at this
  omega
theorem ffst_spec {lt : Nat → Nat → Bool} (hir : ∀ a, lt a a = false) (ht : ∀ a b c, lt a b = true → lt b c = true → lt a c = true) (htot : ∀ a b, a ≠ b → lt a b = true ∨ lt b a = true) {P : Nat → Bool} {n : Nat} (hn : n < 2 ^ 31) : (fd (ffst lt P) n 0 (-1) = -1 ∧ ∀ z, z < n → P z = false) ∨ ∃ y, y < n ∧ P y = true ∧ fd (ffst lt P) n 0 (-1) = nI y ∧ ∀ z, z < n → P z = true → z = y ∨ lt y z = true := by
  refine fd_inv (n := n) (Inv := fun j s => (s = -1 ∧ ∀ z, z < j → P z = false) ∨ ∃ y, y < j ∧ P y = true ∧ s = nI y ∧ ∀ z, z < j → P z = true → z = y ∨ lt y z = true) ?_ n 0 (-1) (Nat.zero_add _) (Or.inl ⟨rfl, fun z hz => absurd hz (by omega)⟩)
  intro j s hj hi
  unfold ffst
  cases hp : P j with
  | false =>
    simp only [Bool.false_eq_true, if_false]
    rcases hi with ⟨h1, h2⟩ | ⟨y, h1, h2, h3, h4⟩
    · refine Or.inl ⟨h1, fun z hz => ?_⟩
      by_cases h5 : z = j
      · rw [h5]; exact hp
      · exact h2 z (by omega)
    · refine Or.inr ⟨y, by omega, h2, h3, fun z hz hz2 => ?_⟩
      by_cases h5 : z = j
      · rw [h5, hp] at hz2; cases hz2
      · exact h4 z (by omega) hz2
  | true =>
    simp only [if_true]
    rcases hi with ⟨h1, h2⟩ | ⟨y, h1, h2, h3, h4⟩
    · rw [if_pos h1]
      refine Or.inr ⟨j, by omega, hp, rfl, fun z hz hz2 => ?_⟩
      by_cases h5 : z = j
      · exact Or.inl h5
      · rw [h2 z (by omega)] at hz2; cases hz2
    · subst h3
      rw [if_neg (nI_ne1 (by omega)), nI_clamp (by omega)]
      split
      · rename_i h6
        refine Or.inr ⟨j, by omega, hp, rfl, fun z hz hz2 => ?_⟩
        by_cases h5 : z = j
        · exact Or.inl h5
        · rcases h4 z (by omega) hz2 with h7 | h7
          · rw [h7]; exact Or.inr h6
          · exact Or.inr (ht _ _ _ h6 h7)
      · rename_i h6
        refine Or.inr ⟨y, by omega, h2, rfl, fun z hz hz2 => ?_⟩
        by_cases h5 : z = j
        · subst h5
          rcases htot y z (by omega) with h7 | h7
          · exact Or.inr h7
          · exact absurd h7 h6
        · exact h4 z (by omega) hz2
/-- by the list of all of them in order -/
theorem ffst_list {lt : Nat → Nat → Bool} (hir : ∀ a, lt a a = false) (ht : ∀ a b c, lt a b = true → lt b c = true → lt a c = true) (htot : ∀ a b, a ≠ b → lt a b = true ∨ lt b a = true) {P : Nat → Bool} {n : Nat} (hn : n < 2 ^ 31) {L : List Nat} (hs : L.Pairwise (fun a b => lt a b = true)) (hm : ∀ z, z ∈ L ↔ z < n ∧ P z = true) : fd (ffst lt P) n 0 (-1) = (match L with | [] => -1 | x :: _ => nI x) := by
  rcases ffst_spec hir ht htot (P := P) hn with ⟨h1, h2⟩ | ⟨y, h1, h2, h3, h4⟩
  · cases L with
    | nil => exact h1
    | cons x L =>
      obtain ⟨h3, h4⟩ := (hm x).mp List.mem_cons_self
      rw [h2 x h3] at h4
      cases h4
  · cases L with
    | nil => exact absurd ((hm y).mpr ⟨h1, h2⟩) (by simp)
    | cons x L =>
      rw [List.pairwise_cons] at hs
      rw [h3]
      show nI y = nI x
      rcases List.mem_cons.mp ((hm y).mpr ⟨h1, h2⟩) with h5 | h5
      · rw [h5]
      · obtain ⟨h6, h7⟩ := (hm x).mp List.mem_cons_self
        rcases h4 x h6 h7 with h8 | h8
        · rw [h8]
        · have := ht _ _ _ h8 (hs.1 y h5)
          rw [hir] at this
          cases this
