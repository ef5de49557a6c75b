/-! small facts -/
/-! the lot at a place of the order -/
theorem nd_rev {L : List Nat} (h : L.Nodup) : L.reverse.Nodup := List.pairwise_reverse.mpr (h.imp fun hab => Ne.symm hab)
theorem insR_ct {lt : Nat → Nat → Bool} {p : Nat → Bool} {x : Nat} : ∀ {R : List Nat}, (insR lt x R).countP p = R.countP p + (if p x = true then 1 else 0) := by
  intro R
  induction R with
  | nil => simp [insR, List.countP_cons]
  | cons y R ih =>
    unfold insR
    split
    · rw [List.countP_cons, List.countP_cons, ih]; omega
    · rw [List.countP_cons]
theorem srt_ct {lt : Nat → Nat → Bool} (hir : ∀ a, lt a a = false) (ht : ∀ a b c, lt a b = true → lt b c = true → lt a c = true) {A B : List Nat} {k : Nat} (hs : (A ++ k :: B).Pairwise (fun a b => lt a b = true)) : (A ++ k :: B).countP (fun j => lt j k) = A.length := by
  rw [List.pairwise_append, List.pairwise_cons] at hs
  obtain ⟨-, ⟨h1, -⟩, h2⟩ := hs
  rw [List.countP_append, List.countP_cons]
  have e1 : A.countP (fun j => lt j k) = A.length := List.countP_eq_length.mpr fun a ha => h2 a ha k List.mem_cons_self
  have e2 : B.countP (fun j => lt j k) = 0 := List.countP_eq_zero.mpr fun b hb h => by
    have := ht _ _ _ h (h1 b hb)
    rw [hir] at this
    cases this
  rw [e1, e2, hir]
  simp

theorem vlt_eb {I : Nat → Nat → Int32} {nc nl t : Nat} (h : az_vlt nc nl t I) : ∀ j, j < nl → az_eb (I 33 j) := by
  intro j hj
  obtain ⟨b, e, h1, h2⟩ := (h j hj).2.2.2
  rcases h2 with h2 | h2
  · exact Or.inl h2
  · exact Or.inr ⟨e, h2.2.2, h2.1⟩
/-! the call die -/
theorem fdp_or {ch cd o : Nat → Int32} {est cl x og : Int32} {n : Nat} {g : Nat → Int32} {v p : Int32} : ∀ i, (fd (fdp ch cd o est cl x og) n 0 (g, v, p)).1 i = g i ∨ (fd (fdp ch cd o est cl x og) n 0 (g, v, p)).1 i = 0 := by
  refine fd_inv (n := n) (Inv := fun _ s => ∀ i, s.1 i = g i ∨ s.1 i = 0) ?_ n 0 (g, v, p) (Nat.zero_add _) (fun i => Or.inl rfl)
  intro j s hj hi i
  unfold fdp
  split
  · split
    · show upd s.1 j 0 i = g i ∨ upd s.1 j 0 i = 0
      rw [upde]
      split
      · exact Or.inr rfl
      · exact hi i
    · exact hi i
  · exact hi i
theorem vlt_left {I I' : Nat → Nat → Int32} {nc nl t : Nat} (h : az_vlt nc nl t I) (h31 : ∀ j, j < nl → 0 ≤ (I' 31 j).toInt ∧ (I' 31 j).toInt ≤ 1000 * (t + 1)) (e29 : I' 29 = I 29) (e30 : I' 30 = I 30) (e32 : I' 32 = I 32) (e33 : I' 33 = I 33) : az_vlt nc nl t I' := by
  intro j hj
  obtain ⟨h1, h2, h3, h4⟩ := h j hj
  rw [e29, e30, e32, e33]
  exact ⟨h1, h2, h31 j hj, h4⟩
section
variable {xs : az_X} {d : Nat} {nl c z : Nat} {I I' : Nat → Nat → Int32} {J : Nat → Nat → Int64} {K : az_O → Prop}
theorem c83w {x og est v w cl : Int32} {g : Nat → Int32} {s : (Nat → Int32) × Int32 × Int32} (hI : I' = dS I x.toNatClampNeg g v w) (hx : az_in x 4 = true) (hn : nl ≤ 60) (h7 : I 28 7 = nI nl) (hv : ∀ j, j < nl → az_in (I 29 j) 12 = true) (hcl : cl = fd (fclm (I 19) (I 29) (I 30) g x og) nl 0 0) (hs : s = fd (fdp (I 19) (I 29) (I 30) est cl x og) nl 0 (g, v, 0)) (hK : K (0, some (.int s.2.2), (az_S, dS I x.toNatClampNeg s.1 s.2.1 (w + s.2.2), J, c, z))) : az_C xs (d + 3) 83 [.ref 0, .int x, .int og, .int est] (az_S, I', J, c, z) K := by
  rw [hI]
  exact c83 hx hn h7 hv hcl hs hK
end
