/-! coins are taken in the order -/
def tkm (m g : Int32) : Int32 := if g < m then g else m
def tkf (x : Nat) (s : (Nat → Int32) × (Nat → Int32) × Int32) : (Nat → Int32) × (Nat → Int32) × Int32 := (upd s.1 x (s.1 x - tkm s.2.2 (s.1 x)), upd s.2.1 x (tkm s.2.2 (s.1 x)), s.2.2 - tkm s.2.2 (s.1 x))
def tk (L : List Nat) (s : (Nat → Int32) × (Nat → Int32) × Int32) : (Nat → Int32) × (Nat → Int32) × Int32 := L.foldl (fun s x => tkf x s) s
def sml (g : Nat → Int32) : List Nat → Int
  | [] => 0
  | x :: L => (g x).toInt + sml g L
theorem ne_mem {x y : Nat} {L : List Nat} (hx : x ∉ L) (hy : y ∈ L) : y ≠ x := by
  intro h
  rw [h] at hy
  exact hx hy
theorem sml_cg {f g : Nat → Int32} : ∀ {L : List Nat}, (∀ x, x ∈ L → f x = g x) → sml f L = sml g L := by
  intro L
  induction L with
  | nil => intro _; rfl
  | cons x L ih =>
    intro h
    show (f x).toInt + sml f L = (g x).toInt + sml g L
    rw [h x List.mem_cons_self, ih fun y hy => h y (List.mem_cons_of_mem _ hy)]
theorem sml_upd {g : Nat → Int32} {x : Nat} {v : Int32} {L : List Nat} (hx : x ∉ L) : sml (upd g x v) L = sml g L :=
  sml_cg fun y hy => by rw [upde, if_neg (ne_mem hx hy)]
theorem sml_nn {g : Nat → Int32} : ∀ {L : List Nat}, (∀ x, x ∈ L → 0 ≤ (g x).toInt) → 0 ≤ sml g L := by
  intro L
  induction L with
  | nil => intro _; exact Int.le_refl _
  | cons x L ih =>
    intro h
    have h1 := h x List.mem_cons_self
    have h2 := ih fun y hy => h y (List.mem_cons_of_mem _ hy)
    show 0 ≤ (g x).toInt + sml g L
    omega
theorem tkm_le {m g : Int32} (hm : 0 ≤ m.toInt) (hg : 0 ≤ g.toInt) : (tkm m g).toInt = min m.toInt g.toInt ∧ (m - tkm m g).toInt = m.toInt - min m.toInt g.toInt ∧ (g - tkm m g).toInt = g.toInt - min m.toInt g.toInt := by
  have h1 := m.toInt_lt
  have h2 := g.toInt_lt
  have e : (tkm m g).toInt = min m.toInt g.toInt := by
    unfold tkm
    simp only [Int32.lt_iff_toInt_lt]
    split <;> omega
  refine ⟨e, ?_, ?_⟩
  · rw [Int32.toInt_sub, e]
    exact Int.bmod_eq_of_le (by omega) (by omega)
  · rw [Int32.toInt_sub, e]
    exact Int.bmod_eq_of_le (by omega) (by omega)
theorem tkm_0 {g : Int32} (hg : 0 ≤ g.toInt) : tkm 0 g = 0 := by
  apply Int32.toInt_inj.mp
  rw [(tkm_le (m := 0) (g := g) (by decide) hg).1, show (0 : Int32).toInt = 0 from rfl]
  omega
/-- nothing is taken any more -/
theorem tk_0 : ∀ {L : List Nat} {g dr : Nat → Int32}, (∀ x, x ∈ L → 0 ≤ (g x).toInt) → (tk L (g, dr, 0)).1 = g ∧ (tk L (g, dr, 0)).2.2 = 0 ∧ ∀ j, (tk L (g, dr, 0)).2.1 j = if j ∈ L then 0 else dr j := by
  intro L
  induction L with
  | nil => intro g dr _; exact ⟨rfl, rfl, fun j => by simp [tk]⟩
  | cons x L ih =>
    intro g dr h
    have e : tk (x :: L) (g, dr, 0) = tk L (g, upd dr x 0, 0) := by
      show tk L (tkf x (g, dr, 0)) = _
      unfold tkf
      dsimp only
      rw [tkm_0 (h x List.mem_cons_self), Int32.sub_zero, upd_same, Int32.sub_zero]
    rw [e]
    obtain ⟨h1, h2, h3⟩ := ih (g := g) (dr := upd dr x 0) (fun y hy => h y (List.mem_cons_of_mem _ hy))
    refine ⟨h1, h2, fun j => ?_⟩
    rw [h3, upde]
    by_cases h4 : j ∈ L
    · simp [h4]
    · by_cases h5 : j = x <;> simp [h4, h5]
theorem tk_dr : ∀ {L : List Nat} {g dr dr2 : Nat → Int32} {m : Int32}, (tk L (g, dr, m)).1 = (tk L (g, dr2, m)).1 ∧ (tk L (g, dr, m)).2.2 = (tk L (g, dr2, m)).2.2 := by
  intro L
  induction L with
  | nil => intro g dr dr2 m; exact ⟨rfl, rfl⟩
  | cons x L ih =>
    intro g dr dr2 m
    exact ih
theorem tk_bd {B : Int} : ∀ {L : List Nat} {g dr : Nat → Int32} {m : Int32}, L.Nodup → (∀ x, x ∈ L → 0 ≤ (g x).toInt) → 0 ≤ m.toInt → (∀ j, j ∉ L → (tk L (g, dr, m)).1 j = g j) ∧ (∀ j, j ∈ L → 0 ≤ ((tk L (g, dr, m)).1 j).toInt ∧ ((tk L (g, dr, m)).1 j).toInt ≤ (g j).toInt) ∧ 0 ≤ (tk L (g, dr, m)).2.2.toInt := by
  intro L
  induction L with
  | nil => intro g dr m _ _ hm; exact ⟨fun _ _ => rfl, fun j hj => absurd hj (by simp), hm⟩
  | cons x L ih =>
    intro g dr m hn h hm
    rw [List.nodup_cons] at hn
    have hx := h x List.mem_cons_self
    obtain ⟨a1, a2, a3⟩ := tkm_le hm hx
    have e : tk (x :: L) (g, dr, m) = tk L (upd g x (g x - tkm m (g x)), upd dr x (tkm m (g x)), m - tkm m (g x)) := rfl
    rw [e]
    obtain ⟨h1, h2, h3⟩ := ih (g := upd g x (g x - tkm m (g x))) (dr := upd dr x (tkm m (g x))) (m := m - tkm m (g x)) hn.2 (fun y hy => by rw [upde, if_neg (ne_mem hn.1 hy)]; exact h y (List.mem_cons_of_mem _ hy)) (by omega)
    refine ⟨fun j hj => ?_, fun j hj => ?_, h3⟩
    · rw [List.mem_cons, not_or] at hj
      rw [h1 j hj.2, upde, if_neg hj.1]
    · by_cases h4 : j ∈ L
      · obtain ⟨h5, h6⟩ := h2 j h4
        refine ⟨h5, Int.le_trans h6 ?_⟩
        rw [upde, if_neg (ne_mem hn.1 h4)]
        exact Int.le_refl _
      · have h5 : j = x := by
          rcases List.mem_cons.mp hj with h5 | h5
          · exact h5
          · exact absurd h5 h4
        subst h5
        rw [h1 j h4, upde, if_pos rfl, a3]
        omega
theorem tk_full : ∀ {L : List Nat} {g dr : Nat → Int32} {m : Int32}, L.Nodup → (∀ x, x ∈ L → 0 ≤ (g x).toInt) → 0 ≤ m.toInt → m.toInt ≤ sml g L → (tk L (g, dr, m)).2.2 = 0 := by
  intro L
  induction L with
  | nil =>
    intro g dr m _ _ h1 h2
    have : m.toInt = 0 := by have : m.toInt ≤ 0 := h2; omega
    show m = 0
    exact Int32.toInt_inj.mp this
  | cons x L ih =>
    intro g dr m hn h h1 h2
    rw [List.nodup_cons] at hn
    have hx := h x List.mem_cons_self
    obtain ⟨a1, a2, a3⟩ := tkm_le h1 hx
    have h2 : m.toInt ≤ (g x).toInt + sml g L := h2
    have h3 := sml_nn (fun y hy => h y (List.mem_cons_of_mem _ hy))
    refine ih (g := upd g x (g x - tkm m (g x))) (dr := upd dr x (tkm m (g x))) (m := m - tkm m (g x)) hn.2 (fun y hy => by rw [upde, if_neg (ne_mem hn.1 hy)]; exact h y (List.mem_cons_of_mem _ hy)) (by omega) ?_
    rw [sml_upd hn.1, a2]
    omega
theorem tk_over : ∀ {L : List Nat} {g dr : Nat → Int32} {m b : Int32}, L.Nodup → (∀ x, x ∈ L → 0 ≤ (g x).toInt) → b.toInt = sml g L → b.toInt ≤ m.toInt → (tk L (g, dr, m)).1 = (tk L (g, dr, b)).1 ∧ (tk L (g, dr, m)).2.2 = m - b := by
  intro L
  induction L with
  | nil =>
    intro g dr m b _ _ h1 _
    have h1 : b.toInt = 0 := h1
    have : b = 0 := Int32.toInt_inj.mp h1
    subst this
    exact ⟨rfl, (Int32.sub_zero m).symm⟩
  | cons x L ih =>
    intro g dr m b hn h h1 h2
    rw [List.nodup_cons] at hn
    have hx := h x List.mem_cons_self
    have h1 : b.toInt = (g x).toInt + sml g L := h1
    have h3 := sml_nn (fun y hy => h y (List.mem_cons_of_mem _ hy))
    obtain ⟨a1, a2, a3⟩ := tkm_le (m := m) (by omega) hx
    obtain ⟨b1, b2, b3⟩ := tkm_le (m := b) (by omega) hx
    have e1 : tkm m (g x) = g x := Int32.toInt_inj.mp (by omega)
    have e2 : tkm b (g x) = g x := Int32.toInt_inj.mp (by omega)
    rw [e1] at a2
    rw [e2] at b2
    have key := ih (g := upd g x (g x - g x)) (dr := upd dr x (g x)) (m := m - g x) (b := b - g x) hn.2 (fun y hy => by rw [upde, if_neg (ne_mem hn.1 hy)]; exact h y (List.mem_cons_of_mem _ hy)) (by rw [sml_upd hn.1]; omega) (by omega)
    have e3 : tk (x :: L) (g, dr, m) = tk L (upd g x (g x - g x), upd dr x (g x), m - g x) := by
      show tk L (tkf x (g, dr, m)) = _
      unfold tkf
      dsimp only
      rw [e1]
    have e4 : tk (x :: L) (g, dr, b) = tk L (upd g x (g x - g x), upd dr x (g x), b - g x) := by
      show tk L (tkf x (g, dr, b)) = _
      unfold tkf
      dsimp only
      rw [e2]
    rw [e3, e4]
    refine ⟨key.1, key.2.trans ?_⟩
    grind
/-- as much as there is, or as is asked for -/
theorem tk_min {L : List Nat} {g dr : Nat → Int32} {m b : Int32} (hn : L.Nodup) (h : ∀ x, x ∈ L → 0 ≤ (g x).toInt) (hm : 0 ≤ m.toInt) (hb : b.toInt = sml g L) : (tk L (g, dr, if b < m then b else m)).1 = (tk L (g, dr, m)).1 ∧ (if b < m then b else m) = m - (tk L (g, dr, m)).2.2 := by
  by_cases h1 : b < m
  · have h2 := Int32.lt_iff_toInt_lt.mp h1
    obtain ⟨h3, h4⟩ := tk_over (dr := dr) (m := m) hn h hb (by omega)
    rw [if_pos h1, h4]
    exact ⟨h3.symm, by grind⟩
  · have h2 : ¬ b.toInt < m.toInt := fun h => h1 (Int32.lt_iff_toInt_lt.mpr h)
    rw [if_neg h1, tk_full (dr := dr) hn h hm (by omega)]
    exact ⟨rfl, (Int32.sub_zero m).symm⟩
/-- a balance is a sum over the order -/
theorem sml_ins {lt : Nat → Nat → Bool} {g : Nat → Int32} {x : Nat} : ∀ {R : List Nat}, sml g (insR lt x R) = (g x).toInt + sml g R := by
  intro R
  induction R with
  | nil => rfl
  | cons y R ih =>
    unfold insR
    split
    · show (g y).toInt + sml g (insR lt x R) = (g x).toInt + ((g y).toInt + sml g R)
      rw [ih]; omega
    · rfl
theorem sml_app {g : Nat → Int32} : ∀ {A B : List Nat}, sml g (A ++ B) = sml g A + sml g B := by
  intro A
  induction A with
  | nil => intro B; show sml g B = 0 + sml g B; omega
  | cons a A ih => intro B; show (g a).toInt + sml g (A ++ B) = (g a).toInt + sml g A + sml g B; rw [ih]; omega
theorem sml_rev {g : Nat → Int32} : ∀ {A : List Nat}, sml g A.reverse = sml g A := by
  intro A
  induction A with
  | nil => rfl
  | cons a A ih => rw [List.reverse_cons, sml_app, ih]; show sml g A + ((g a).toInt + 0) = (g a).toInt + sml g A; omega
theorem sml_ord {lt : Nat → Nat → Bool} {cd g : Nat → Int32} {x : Int32} {B n : Nat} (h : ∀ i, i < n → 0 ≤ (g i).toInt ∧ (g i).toInt ≤ B) (hb : n * B < 2 ^ 31) : (fd (fbal cd g x) n 0 0).toInt = sml g (ordR lt (pOn cd g x) n) := by
  have key := fd_rel (n := n) (h := fbal cd g x) (g := fun j R => if pOn cd g x j = true then insR lt j R else R) (Rl := fun j s R => s.toInt = sml g R ∧ 0 ≤ s.toInt ∧ s.toInt ≤ ((j * B : Nat) : Int)) ?_ n 0 0 [] (Nat.zero_add _) ⟨rfl, by decide, by simp⟩
  · exact key.1
  · rintro j s R hj ⟨h1, h2, h3⟩
    obtain ⟨h4, h5⟩ := h j hj
    have h6 : (j + 1) * B ≤ n * B := Nat.mul_le_mul_right B (by omega)
    rw [Nat.add_mul, Nat.one_mul] at h6
    unfold fbal pOn
    rw [Nat.add_mul, Nat.one_mul]
    by_cases hc : cd j = x
    · by_cases hg : 0 < g j
      · have ea : (s + g j).toInt = s.toInt + (g j).toInt := by
          rw [Int32.toInt_add]
          exact Int.bmod_eq_of_le (by omega) (by omega)
        simp only [hc, hg, and_self, decide_true, if_true, sml_ins, ea]
        omega
      · have e0 : (g j).toInt = 0 := by
          have : ¬ 0 < (g j).toInt := fun q => hg (Int32.lt_iff_toInt_lt.mpr q)
          omega
        have ea : s + g j = s := by
          rw [show g j = 0 from Int32.toInt_inj.mp e0, Int32.add_zero]
        simp only [hc, hg, and_false, decide_false, Bool.false_eq_true, if_true, if_false, ea]
        omega
    · simp only [hc, false_and, decide_false, Bool.false_eq_true, if_false]
      omega
