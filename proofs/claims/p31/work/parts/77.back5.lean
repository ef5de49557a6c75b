/-! coins go back: both say the same -/
theorem gb_cs {op : Nat → Int32} {x : Nat} {L : List Nat} {dr : Nat → Int32} {m : Int32} : gb (x :: L) op (dr, m) = gb L op (upd dr x (tkm m (op x)), m - tkm m (op x)) := by
  unfold gb
  rw [List.foldl_cons]
theorem gb_cg {op op2 : Nat → Int32} : ∀ {L : List Nat} {dr : Nat → Int32} {m : Int32}, (∀ y, y ∈ L → op y = op2 y) → gb L op (dr, m) = gb L op2 (dr, m) := by
  intro L
  induction L with
  | nil =>
    intro dr m _
    unfold gb
    rw [List.foldl_nil, List.foldl_nil]
  | cons x L ih =>
    intro dr m h
    rw [gb_cs, gb_cs, h x List.mem_cons_self]
    exact ih fun y hy => h y (List.mem_cons_of_mem _ hy)
theorem gb_out {op : Nat → Int32} {j : Nat} : ∀ {L : List Nat} {dr : Nat → Int32} {m : Int32}, j ∉ L → (gb L op (dr, m)).1 j = dr j := by
  intro L
  induction L with
  | nil => intro dr m _; rfl
  | cons x L ih =>
    intro dr m h
    rw [List.mem_cons, not_or] at h
    have e1 : gb (x :: L) op (dr, m) = gb L op (upd dr x (tkm m (op x)), m - tkm m (op x)) := rfl
    rw [e1, ih h.2, upde, if_neg h.1]
theorem gb_cons {op : Nat → Int32} {x : Nat} {L : List Nat} {m : Int32} (hx : x ∉ L) (k : Nat) : (gb (x :: L) op ((fun _ => 0), m)).1 k = if k = x then tkm m (op x) else (gb L op ((fun _ => 0), m - tkm m (op x))).1 k := by
  have e1 : gb (x :: L) op ((fun _ => 0), m) = gb L op (upd (fun _ => 0) x (tkm m (op x)), m - tkm m (op x)) := rfl
  rw [e1]
  by_cases h : k = x
  · subst h
    rw [if_pos rfl, gb_out hx, upde, if_pos rfl]
  · rw [if_neg h]
    exact gb_drj (by rw [upde, if_neg h])