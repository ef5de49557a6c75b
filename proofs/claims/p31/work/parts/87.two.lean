/-! two objects: a call on the one leaves the other as it is -/
def St2 (I s s2 : St) : Prop := kr I = s ∧ kr (fun a => I (rn a)) = s2
theorem rn_hi {a : Nat} (h : a < 152) : rn a = a + 152 := by unfold rn; rw [if_pos h]
theorem kq_lt {a j : Nat} (h : kq a j = true) : a < 152 := by
  simp only [kq, kw, List.contains_cons, List.contains_nil, Bool.or_eq_true, Bool.and_eq_true, beq_iff_eq, Bool.or_false, Nat.ble_eq, Nat.blt] at h
  omega
theorem Fr_rn {I I' : St} (h : Fr I I') : kr (fun a => I' (rn a)) = kr (fun a => I (rn a)) := kr_eq fun a j hq => by
  show I' (rn a) j = I (rn a) j
  rw [h _ (by rw [rn_hi (kq_lt hq)]; omega)]
theorem rn_twice {α : Type} {J : Nat → α} : (fun a => (fun b => J (rn b)) (rn a)) = J := by
  funext a
  show J (rn (rn a)) = J a
  rw [rn_rn]
theorem swp {xs : az_X} {d m : Nat} {as : List Value} {I : St} {J : Nat → Nat → Int64} {c z : Nat} {K : az_O → Prop} {P : Nat → Option Value → St → Nat → Nat → Prop} (h : ∀ K0 : az_O → Prop, (∀ n v I' c' z', P n v I' c' z' → K0 (n, v, (az_S, I', (fun a => J (rn a)), c', z'))) → az_C xs d m as (az_S, (fun a => I (rn a)), (fun a => J (rn a)), c, z) K0) (hK : ∀ n v I' c' z', P n v I' c' z' → K (n, v.map rv, (az_S, (fun a => I' (rn a)), J, c', z'))) : az_C xs d m (mS as) (az_S, I, J, c, z) K := by
  refine swapC (K' := fun o => ∃ n v I' c' z', o = (n, v, (az_S, I', (fun a => J (rn a)), c', z')) ∧ P n v I' c' z') (h _ fun n v I' c' z' hp => ⟨n, v, I', c', z', rfl, hp⟩) ?_
  rintro n v S I' J' c' z' ⟨n2, v2, I2, c2, z2, e, hp⟩
  cases e
  refine ⟨rfl, ?_⟩
  rw [rn_twice (J := J)]
  exact hK _ _ _ _ _ hp
section
variable {xs : az_X} {d mo nc nl ng np t c z : Nat} {I : St} {J : Nat → Nat → Int64} {K : az_O → Prop} {n : Nat} {a b e f : Int32} {s s2 : St}
theorem do_o (hn : n < 27) (ht : t < 600) (hS : St2 I s s2) (H : PC s mo nc nl ng np t) (hK : ∀ I' c' z', St2 I' (fdo n a b e f s).2 s2 → c' ≤ c + 1 → z' ≤ z + 6 → K (0, some (.int (fdo n a b e f s).1), (az_S, I', J, c', z'))) : az_C xs (d + 14) 91 [.ref 0, .int (nI n), .int a, .int b, .int e, .int f] (az_S, I, J, c, z) K := by
  obtain ⟨rfl, rfl⟩ := hS
  exact does_o hn ht (PC_kr.mp H) fun I' c' z' h1 h2 h3 h4 => hK I' c' z' ⟨h1, Fr_rn h2⟩ h3 h4
theorem do_p (hn : n < 27) (ht : t < 600) (hS : St2 I s s2) (H : PC s2 mo nc nl ng np t) (hK : ∀ I' c' z', St2 I' s (fdo n a b e f s2).2 → c' ≤ c + 1 → z' ≤ z + 6 → K (0, some (.int (fdo n a b e f s2).1), (az_S, I', J, c', z'))) : az_C xs (d + 14) 91 [.ref 152, .int (nI n), .int a, .int b, .int e, .int f] (az_S, I, J, c, z) K := by
  obtain ⟨rfl, rfl⟩ := hS
  refine swp (as := [.ref 0, .int (nI n), .int a, .int b, .int e, .int f]) (P := fun n9 v I' c' z' => n9 = 0 ∧ v = some (.int (fdo n a b e f (kr (fun a => I (rn a)))).1) ∧ kr I' = (fdo n a b e f (kr (fun a => I (rn a)))).2 ∧ Fr (fun a => I (rn a)) I' ∧ c' ≤ c + 1 ∧ z' ≤ z + 6) (fun K0 hK0 => does_o hn ht (PC_kr.mp H) fun I' c' z' h1 h2 h3 h4 => hK0 _ _ _ _ _ ⟨rfl, rfl, h1, h2, h3, h4⟩) ?_
  rintro n9 v I' c' z' ⟨rfl, rfl, h1, h2, h3, h4⟩
  refine hK _ c' z' ⟨?_, ?_⟩ h3 h4
  · have := Fr_rn h2
    rw [rn_twice (J := I)] at this
    exact this
  · rw [rn_twice (J := I')]
    exact h1
/-- act, by the number v alone -/
theorem act_2 (xs : az_X) (v : Int32) : ∃ F : St → Int32 × St, aG F ∧
    (∀ (d mo nc nl ng np t : Nat) (I s s2 : St) (J : Nat → Nat → Int64) (c z : Nat) (K : az_O → Prop), t < 600 → St2 I s s2 → PC s mo nc nl ng np t → (∀ I' c' z', St2 I' (F s).2 s2 → c' ≤ c + 2 → z' ≤ z + 12 → K (0, some (.int (F s).1), (az_S, I', J, c', z'))) → az_C xs (d + 15) 95 [.ref 0, .int v] (az_S, I, J, c, z) K) ∧
    (∀ (d mo nc nl ng np t : Nat) (I s s2 : St) (J : Nat → Nat → Int64) (c z : Nat) (K : az_O → Prop), t < 600 → St2 I s s2 → PC s2 mo nc nl ng np t → (∀ I' c' z', St2 I' s (F s2).2 → c' ≤ c + 2 → z' ≤ z + 12 → K (0, some (.int (F s2).1), (az_S, I', J, c', z'))) → az_C xs (d + 15) 95 [.ref 152, .int v] (az_S, I, J, c, z) K) := by
  obtain ⟨F, hF, h⟩ := act_o (xs := xs) (v := v)
  refine ⟨F, hF, ?_, ?_⟩
  · intro d mo nc nl ng np t I s s2 J c z K ht hS H hK
    obtain ⟨rfl, rfl⟩ := hS
    exact h d mo nc nl ng np t I J c z K ht (PC_kr.mp H) fun I' c' z' h1 h2 h3 h4 => hK I' c' z' ⟨h1, Fr_rn h2⟩ (by omega) (by omega)
  · intro d mo nc nl ng np t I s s2 J c z K ht hS H hK
    obtain ⟨rfl, rfl⟩ := hS
    refine swp (as := [.ref 0, .int v]) (P := fun n9 w I' c' z' => n9 = 0 ∧ w = some (.int (F (kr (fun a => I (rn a)))).1) ∧ kr I' = (F (kr (fun a => I (rn a)))).2 ∧ Fr (fun a => I (rn a)) I' ∧ c' ≤ c + 2 ∧ z' ≤ z + 12) (fun K0 hK0 => h d mo nc nl ng np t _ _ c z K0 ht (PC_kr.mp H) fun I' c' z' h1 h2 h3 h4 => hK0 _ _ _ _ _ ⟨rfl, rfl, h1, h2, by omega, by omega⟩) ?_
    rintro n9 w I' c' z' ⟨rfl, rfl, h1, h2, h3, h4⟩
    refine hK _ c' z' ⟨?_, ?_⟩ h3 h4
    · have := Fr_rn h2
      rw [rn_twice (J := I)] at this
      exact this
    · rw [rn_twice (J := I')]
      exact h1
theorem month_o (hS : St2 I s s2) (hK : K (0, some (.int (s 0 6)), (az_S, I, J, c, z)) ∨ ∀ I' , St2 I' s s2 → K (0, some (.int (s 0 6)), (az_S, I', J, c, z))) : az_C xs (d + 12) 59 [.ref 0] (az_S, I, J, c, z) K := by
  simp (maxDischargeDepth := 7) only [C59, th59, s59_0, s59_1, s59_4, g0_6, az_ex, az_bk0, az_bk1, az_bkx, az_cat0, az_cati, az_catr, az_catl, az_vi, az_vr, az_bo0, az_bo1, az_boi, true_and, and_true, if_true, if_false, ne_eq, not_true_eq_false, not_false_eq_true, List.set_cons_zero, List.set_cons_succ, Nat.reduceAdd, Nat.reduceLeDiff, Nat.reduceEqDiff, ↓reduceIte, reduceCtorEq, Nat.reduceSub, Nat.reduceMul, Int32.reduceLT, Int32.reduceLE, Int32.reduceAdd, Int32.reduceMul, Int32.reduceSub, az_ne10, az_ne20, az_ne30, Nat.zero_le]
  obtain ⟨rfl, rfl⟩ := hS
  rcases hK with hK | hK
  · exact hK
  · exact hK I ⟨rfl, rfl⟩
theorem month_p (hS : St2 I s s2) (hK : ∀ I', St2 I' s s2 → K (0, some (.int (s2 0 6)), (az_S, I', J, c, z))) : az_C xs (d + 12) 59 [.ref 152] (az_S, I, J, c, z) K := by
  obtain ⟨rfl, rfl⟩ := hS
  refine swp (as := [.ref 0]) (P := fun n9 w I' c' z' => n9 = 0 ∧ w = some (.int (kr (fun a => I (rn a)) 0 6)) ∧ I' = (fun a => I (rn a)) ∧ c' = c ∧ z' = z) (fun K0 hK0 => month_o ⟨rfl, rfl⟩ (Or.inl (hK0 _ _ _ _ _ ⟨rfl, rfl, rfl, rfl, rfl⟩))) ?_
  rintro n9 w I' c' z' ⟨rfl, rfl, rfl, rfl, rfl⟩
  rw [rn_twice (J := I)]
  exact hK I ⟨rfl, rfl⟩
theorem cc59p {rest : List Value} (h : az_cat rest ≤ 8) : az_cc 59 az_S [.ref 152] rest := ⟨h, rfl, Or.inr (Or.inr (by decide +kernel))⟩
theorem q2 (hn : 18 ≤ n) (hn2 : n < 27) : (fdo n a b e f s).2 = s := by
  match n, hn, hn2 with
  | 18, _, _ => rfl
  | 19, _, _ => rfl
  | 20, _, _ => rfl
  | 21, _, _ => rfl
  | 22, _, _ => rfl
  | 23, _, _ => rfl
  | 24, _, _ => rfl
  | 25, _, _ => rfl
  | 26, _, _ => rfl
  | n + 27, _, h => omega
theorem q2_6 : (fdo 6 a b e f s).2 = s := by
  show (f_best s a).2 = s
  unfold f_best
  split <;> rfl
theorem q2_10 : (fdo 10 a b e f s).2 = s := by
  show (f_why s a b).2 = s
  unfold f_why
  split <;> rfl
end
