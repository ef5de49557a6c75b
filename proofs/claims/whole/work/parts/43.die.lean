/-! a chain dies -/
/-- one lot of the estate: lots' coins, what is lost, what is paid -/
def fdie (ch cd o : Nat → Int32) (est cl x og : Int32) (j : Nat) (s : (Nat → Int32) × Int32 × Int32) : (Nat → Int32) × Int32 × Int32 :=
  if ch (cd j).toNatClampNeg = x ∧ o j = og ∧ 0 < s.1 j then (upd s.1 j 0, s.2.1 + (s.1 j - (if cl ≤ est then s.1 j else est * s.1 j / cl)), s.2.2 + (if cl ≤ est then s.1 j else est * s.1 j / cl)) else s
theorem fclm_sum {ch f o g : Nat → Int32} {x og : Int32} {B : Nat} : ∀ (n j : Nat) (s : Int32), (∀ i, i < j + n → 0 ≤ (g i).toInt ∧ (g i).toInt ≤ B) → 0 ≤ s.toInt → s.toInt + (n : Int) * (B : Int) < 2 ^ 31 → s.toInt ≤ (fd (fclm ch f o g x og) n j s).toInt ∧ (fd (fclm ch f o g x og) n j s).toInt ≤ s.toInt + (n : Int) * (B : Int) := by
  intro n
  induction n with
  | zero => intro j s _ h1 h2; simp [fd]
  | succ n ih =>
    intro j s h h1 h2
    have hj := h j (by omega)
    have e : ((n + 1 : Nat) : Int) * (B : Int) = (n : Int) * (B : Int) + (B : Int) := by rw [Int.natCast_add, Int.add_mul]; simp
    rw [e] at h2 ⊢
    have hnB : (0 : Int) ≤ (n : Int) * (B : Int) := Int.mul_nonneg (by omega) (by omega)
    have ea : (s + g j).toInt = s.toInt + (g j).toInt := by
      rw [Int32.toInt_add]
      exact Int.bmod_eq_of_le (by omega) (by omega)
    simp only [fd]
    unfold fclm
    split
    · split
      · have := ih (j + 1) (s + g j) (fun i hi => h i (by omega)) (by omega) (by omega)
        rw [ea] at this
        exact ⟨by have := this.1; unfold fclm at this; omega, by have := this.2; unfold fclm at this; omega⟩
      · have := ih (j + 1) s (fun i hi => h i (by omega)) h1 (by omega)
        exact ⟨by have := this.1; unfold fclm at this; omega, by have := this.2; unfold fclm at this; omega⟩
    · have := ih (j + 1) s (fun i hi => h i (by omega)) h1 (by omega)
      exact ⟨by have := this.1; unfold fclm at this; omega, by have := this.2; unfold fclm at this; omega⟩
