/-! best, bestAnew, fewest -/
theorem best_eq {I : Nat → Nat → Int32} {ng p lo sz : Nat} (hb : az_ebar I) (hn : ng ≤ 6) (h : LX (fun s q => s < 2 ^ ng ∧ GP (apI I) (lsI I) (bmI I) ng p s q) lo sz) : LF (apI I) (lsI I) (bmI I) ng 6 p 0 = lo :=
  (LX_LF apI_le hn (fun c hc => (ebar_bm hb (show c < 6 by omega)).2.1) (fun c hc => (ebar_bm hb (show c < 6 by omega)).2.2.1) (fun a ha b hb' => ((ebar_bm hb (show a < 6 by omega)).2.2.2 b (by omega)).2) h).symm

/-! a payment is made: the reference -/
theorem tk_dr2 : ∀ {L : List Nat} {g dr : Nat → Int32} {m : Int32}, L.Nodup → (∀ x, x ∈ L → 0 ≤ (g x).toInt) → 0 ≤ m.toInt → (∀ j, j ∉ L → (tk L (g, dr, m)).2.1 j = dr j) ∧ (∀ j, j ∈ L → 0 ≤ ((tk L (g, dr, m)).2.1 j).toInt) ∧ sml (tk L (g, dr, m)).2.1 L + (tk L (g, dr, m)).2.2.toInt = m.toInt := by
  intro L
  induction L with
  | nil =>
    intro g dr m _ _ hm
    refine ⟨fun _ _ => rfl, fun j hj => absurd hj (by simp), ?_⟩
    show 0 + m.toInt = m.toInt
    omega
  | cons x L ih =>
    intro g dr m hn h hm
    rw [List.nodup_cons] at hn
    have hx := h x List.mem_cons_self
    obtain ⟨a1, a2, a3⟩ := tkm_le hm hx
    have e : tk (x :: L) (g, dr, m) = tk L (upd g x (g x - tkm m (g x)), upd dr x (tkm m (g x)), m - tkm m (g x)) := rfl
    rw [e]
    obtain ⟨h1, h2, h3⟩ := ih (g := upd g x (g x - tkm m (g x))) (dr := upd dr x (tkm m (g x))) (m := m - tkm m (g x)) hn.2 (fun y hy => by rw [upde, if_neg (ne_mem hn.1 hy)]; exact h y (List.mem_cons_of_mem _ hy)) (by omega)
    refine ⟨fun j hj => ?_, fun j hj => ?_, ?_⟩
    · rw [List.mem_cons, not_or] at hj
      rw [h1 j hj.2, upde, if_neg hj.1]
    · by_cases h4 : j ∈ L
      · exact h2 j h4
      · have h5 : j = x := by
          rcases List.mem_cons.mp hj with h5 | h5
          · exact h5
          · exact absurd h5 h4
        subst h5
        rw [h1 j h4, upde, if_pos rfl]
        omega
    · show ((tk L (upd g x (g x - tkm m (g x)), upd dr x (tkm m (g x)), m - tkm m (g x))).2.1 x).toInt + sml _ L + _ = _
      rw [h1 x hn.1, upde, if_pos rfl]
      omega

/-! a payment more -/
theorem tk_drj {j : Nat} : ∀ {L : List Nat} {g dr dr2 : Nat → Int32} {m : Int32}, dr j = dr2 j → (tk L (g, dr, m)).2.1 j = (tk L (g, dr2, m)).2.1 j := by
  intro L
  induction L with
  | nil => intro g dr dr2 m h; exact h
  | cons x L ih =>
    intro g dr dr2 m h
    refine ih (dr := upd dr x (tkm m (g x))) (dr2 := upd dr2 x (tkm m (g x))) ?_
    rw [upde, upde, h]
/-! pay -/
theorem sml_z {f : Nat → Int32} : ∀ {L : List Nat}, (∀ y, y ∈ L → f y = 0) → sml f L = 0 := by
  intro L
  induction L with
  | nil => intro _; rfl
  | cons x L ih =>
    intro h
    show (f x).toInt + sml f L = 0
    rw [h x List.mem_cons_self, ih fun y hy => h y (List.mem_cons_of_mem _ hy)]
    rfl

/-! giveBack -/
theorem fb_si_mono {f g : Nat → Int} : ∀ {n : Nat}, (∀ k, k < n → f k ≤ g k) → fb_si f n ≤ fb_si g n := by
  intro n
  induction n with
  | zero => intro _; exact Int.le_refl _
  | succ n ih =>
    intro h
    rw [fb_si_succ, fb_si_succ]
    have h1 := ih fun k hk => h k (by omega)
    have h2 := h n (by omega)
    omega
theorem fb_si_nn {f : Nat → Int} : ∀ {n : Nat}, (∀ k, k < n → 0 ≤ f k) → 0 ≤ fb_si f n := by
  intro n
  induction n with
  | zero => intro _; exact Int.le_refl _
  | succ n ih =>
    intro h
    rw [fb_si_succ]
    have h1 := ih fun k hk => h k (by omega)
    have h2 := h n (by omega)
    omega
