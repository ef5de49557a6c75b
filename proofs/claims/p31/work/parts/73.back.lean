/-! coins go back: sums, lists -/
/-- from the last one on -/
def gb (R : List Nat) (op : Nat → Int32) (s : (Nat → Int32) × Int32) : (Nat → Int32) × Int32 := R.foldl (fun s x => (upd s.1 x (tkm s.2 (op x)), s.2 - tkm s.2 (op x))) s
theorem gb_filter {op : Nat → Int32} : ∀ {L : List Nat} {dr : Nat → Int32} {m : Int32}, (∀ x, x ∈ L → 0 ≤ (op x).toInt) → 0 ≤ m.toInt → L.Nodup → (∀ x, x ∈ L → dr x = 0) → gb (L.filter fun j => decide (0 < op j)) op (dr, m) = gb L op (dr, m) := by
  intro L
  induction L with
  | nil => intro dr m _ _ _ _; rfl
  | cons x L ih =>
    intro dr m h hm hn hz
    rw [List.nodup_cons] at hn
    have hx := h x List.mem_cons_self
    have e2 : gb (x :: L) op (dr, m) = gb L op (upd dr x (tkm m (op x)), m - tkm m (op x)) := rfl
    obtain ⟨a1, a2, a3⟩ := tkm_le hm hx
    by_cases h0 : 0 < op x
    · rw [List.filter_cons_of_pos (by simpa using h0)]
      have e1 : gb (x :: L.filter fun j => decide (0 < op j)) op (dr, m) = gb (L.filter fun j => decide (0 < op j)) op (upd dr x (tkm m (op x)), m - tkm m (op x)) := rfl
      rw [e1, e2]
      exact ih (fun y hy => h y (List.mem_cons_of_mem _ hy)) (by omega) hn.2 (fun y hy => by rw [upde, if_neg (ne_mem hn.1 hy)]; exact hz y (List.mem_cons_of_mem _ hy))
    · rw [List.filter_cons_of_neg (by simpa using h0), e2]
      have h1 : op x = 0 := by
        have h2 : ¬ 0 < (op x).toInt := fun q => h0 (Int32.lt_iff_toInt_lt.mpr q)
        apply Int32.toInt_inj.mp
        rw [show (0 : Int32).toInt = 0 from rfl]
        omega
      have h2 : tkm m (op x) = 0 := by
        apply Int32.toInt_inj.mp
        rw [a1, h1, show (0 : Int32).toInt = 0 from rfl]
        omega
      have h3 : upd dr x 0 = dr := by
        have h4 := hz x List.mem_cons_self
        funext j
        rw [upde]
        split
        · rename_i h5; rw [h5, h4]
        · rfl
      rw [h2, Int32.sub_zero, h3]
      exact ih (fun y hy => h y (List.mem_cons_of_mem _ hy)) hm hn.2 (fun y hy => hz y (List.mem_cons_of_mem _ hy))
theorem gb_bd {op : Nat → Int32} : ∀ {L : List Nat} {dr : Nat → Int32} {m : Int32}, L.Nodup → (∀ x, x ∈ L → 0 ≤ (op x).toInt) → 0 ≤ m.toInt → (∀ j, j ∉ L → (gb L op (dr, m)).1 j = dr j) ∧ (∀ j, j ∈ L → 0 ≤ ((gb L op (dr, m)).1 j).toInt ∧ ((gb L op (dr, m)).1 j).toInt ≤ (op j).toInt ∧ ((gb L op (dr, m)).1 j).toInt ≤ m.toInt) ∧ sml (gb L op (dr, m)).1 L + (gb L op (dr, m)).2.toInt = m.toInt ∧ 0 ≤ (gb L op (dr, m)).2.toInt := by
  intro L
  induction L with
  | nil =>
    intro dr m _ _ hm
    refine ⟨fun _ _ => rfl, fun j hj => absurd hj (by simp), ?_, hm⟩
    show 0 + m.toInt = m.toInt
    omega
  | cons x L ih =>
    intro dr m hn h hm
    rw [List.nodup_cons] at hn
    have hx := h x List.mem_cons_self
    obtain ⟨a1, a2, a3⟩ := tkm_le hm hx
    have e : gb (x :: L) op (dr, m) = gb L op (upd dr x (tkm m (op x)), m - tkm m (op x)) := rfl
    rw [e]
    obtain ⟨h1, h2, h3, h9⟩ := ih (dr := upd dr x (tkm m (op x))) (m := m - tkm m (op x)) hn.2 (fun y hy => h y (List.mem_cons_of_mem _ hy)) (by omega)
    refine ⟨fun j hj => ?_, fun j hj => ?_, ?_, h9⟩
    · rw [List.mem_cons, not_or] at hj
      rw [h1 j hj.2, upde, if_neg hj.1]
    · by_cases h4 : j ∈ L
      · obtain ⟨k1, k2, k3⟩ := h2 j h4
        exact ⟨k1, k2, by omega⟩
      · have h5 : j = x := by
          rcases List.mem_cons.mp hj with h5 | h5
          · exact h5
          · exact absurd h5 h4
        subst h5
        rw [h1 j h4, upde, if_pos rfl]
        omega
    · show ((gb L op (upd dr x (tkm m (op x)), m - tkm m (op x))).1 x).toInt + sml _ L + _ = _
      rw [h1 x hn.1, upde, if_pos rfl]
      omega
theorem gb_full {op : Nat → Int32} : ∀ {L : List Nat} {dr : Nat → Int32} {m : Int32}, (∀ x, x ∈ L → 0 ≤ (op x).toInt) → 0 ≤ m.toInt → m.toInt ≤ sml op L → (gb L op (dr, m)).2 = 0 := by
  intro L
  induction L with
  | nil =>
    intro dr m _ h1 h2
    have : m.toInt = 0 := by have : m.toInt ≤ 0 := h2; omega
    show m = 0
    exact Int32.toInt_inj.mp this
  | cons x L ih =>
    intro dr m h h1 h2
    have hx := h x List.mem_cons_self
    obtain ⟨a1, a2, a3⟩ := tkm_le h1 hx
    have h2 : m.toInt ≤ (op x).toInt + sml op L := h2
    have h3 := sml_nn (fun y hy => h y (List.mem_cons_of_mem _ hy))
    exact ih (dr := upd dr x (tkm m (op x))) (m := m - tkm m (op x)) (fun y hy => h y (List.mem_cons_of_mem _ hy)) (by omega) (by omega)
theorem gb_drj {op : Nat → Int32} {j : Nat} : ∀ {L : List Nat} {dr dr2 : Nat → Int32} {m : Int32}, dr j = dr2 j → (gb L op (dr, m)).1 j = (gb L op (dr2, m)).1 j := by
  intro L
  induction L with
  | nil => intro dr dr2 m h; exact h
  | cons x L ih =>
    intro dr dr2 m h
    refine ih (dr := upd dr x (tkm m (op x))) (dr2 := upd dr2 x (tkm m (op x))) ?_
    rw [upde, upde, h]
/-- a sum over a list is one over all -/
def smi (t : Nat → Int) : List Nat → Int
  | [] => 0
  | x :: L => t x + smi t L
theorem smi_cg {t u : Nat → Int} : ∀ {L : List Nat}, (∀ x, x ∈ L → t x = u x) → smi t L = smi u L := by
  intro L
  induction L with
  | nil => intro _; rfl
  | cons x L ih =>
    intro h
    show t x + smi t L = u x + smi u L
    rw [h x List.mem_cons_self, ih fun y hy => h y (List.mem_cons_of_mem _ hy)]
theorem smi_all {n : Nat} : ∀ {L : List Nat} {t : Nat → Int}, L.Nodup → (∀ x, x ∈ L → x < n) → (∀ j, j < n → j ∉ L → t j = 0) → smi t L = fb_si t n := by
  intro L
  induction L with
  | nil =>
    intro t _ _ h
    have h0 : fb_si t n = fb_si (fun _ => (0 : Int)) n := fb_si_cong fun k hk => h k hk (by simp)
    have h1 : ∀ n, fb_si (fun _ => (0 : Int)) n = 0 := by
      intro n
      induction n with
      | zero => rfl
      | succ n ih => rw [fb_si_succ, ih]; rfl
    rw [h0, h1]
    rfl
  | cons x L ih =>
    intro t hn hl h
    rw [List.nodup_cons] at hn
    have hx := hl x List.mem_cons_self
    have e1 := ih (t := fun k => if k = x then 0 else t k) hn.2 (fun y hy => hl y (List.mem_cons_of_mem _ hy)) (fun j hj hjL => by
      by_cases h1 : j = x
      · simp [h1]
      · simp only [h1, if_false]
        exact h j hj (by simp [h1, hjL]))
    rw [fb_si_upd t 0 hx] at e1
    have e2 : smi (fun k => if k = x then 0 else t k) L = smi t L := smi_cg fun y hy => by simp [ne_mem hn.1 hy]
    rw [e2] at e1
    show t x + smi t L = _
    omega
theorem smi_sml {f : Nat → Int32} : ∀ {L : List Nat}, smi (fun x => (f x).toInt) L = sml f L := by
  intro L
  induction L with
  | nil => rfl
  | cons x L ih =>
    show (f x).toInt + smi _ L = (f x).toInt + sml f L
    rw [ih]
/-- what is planned for lots that have expired -/
def flt (ex : Nat → Bool) (dr : Nat → Int32) (j : Nat) (s : Int32) : Int32 := if ex j = true then s + dr j else s
theorem flt_sum {ex : Nat → Bool} {dr : Nat → Int32} {n : Nat} (hn : n ≤ 60) (h : ∀ j, j < n → 0 ≤ (dr j).toInt ∧ (dr j).toInt ≤ 1000) : (fd (flt ex dr) n 0 0).toInt = fb_si (fun j => if ex j = true then (dr j).toInt else 0) n := by
  have key := fd_inv (n := n) (h := flt ex dr) (Inv := fun j s => s.toInt = fb_si (fun j => if ex j = true then (dr j).toInt else 0) j ∧ 0 ≤ s.toInt ∧ s.toInt ≤ 1000 * (j : Int)) ?_ n 0 0 (Nat.zero_add _) ⟨rfl, by decide, by decide⟩
  · exact key.1
  · rintro j s hj ⟨h1, h2, h3⟩
    obtain ⟨h4, h5⟩ := h j hj
    unfold flt
    rw [fb_si_succ]
    by_cases he : ex j = true
    · have ea : (s + dr j).toInt = s.toInt + (dr j).toInt := fb_addI (by omega) (by omega)
      simp only [he, if_true, ea]
      omega
    · simp only [he, Bool.false_eq_true, if_false]
      omega
theorem fsb_sum {dr : Nat → Int32} {n : Nat} {v : Int32} (hn : n ≤ 60) (h : ∀ j, j < n → 0 ≤ (dr j).toInt ∧ (dr j).toInt ≤ 1000) (hv : 0 ≤ v.toInt) : (fd (fun j s => s - dr j) n 0 v).toInt = v.toInt - fb_si (fun j => (dr j).toInt) n := by
  have key := fd_inv (n := n) (h := fun j (s : Int32) => s - dr j) (Inv := fun j s => s.toInt = v.toInt - fb_si (fun j => (dr j).toInt) j ∧ s.toInt ≤ v.toInt ∧ v.toInt - 1000 * (j : Int) ≤ s.toInt) ?_ n 0 v (Nat.zero_add _) ⟨by show v.toInt = v.toInt - 0; omega, Int.le_refl _, by simp⟩
  · exact key.1
  · rintro j s hj ⟨h1, h2, h3⟩
    obtain ⟨h4, h5⟩ := h j hj
    have hlt := v.toInt_lt
    rw [fb_si_succ]
    have ea : (s - dr j).toInt = s.toInt - (dr j).toInt := fb_subI (by omega) (by omega)
    rw [ea]
    omega
