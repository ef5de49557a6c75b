/-! small facts of sets -/
/-! the reference finds the best price: its small parts -/
theorem bz_rem {a b : Nat} (ha : a < 2 ^ 31) (hb : b < 2 ^ 31) : nI a - nI a / nI b * nI b = nI (a % b) := by
  rw [bz_div ha hb, bz_mul, bz_sub (Nat.div_mul_le_self a b)]
  congr 1
  have := Nat.div_add_mod a b
  rw [Nat.mul_comm] at this
  omega
theorem bz_pw {n : Nat} (h : n ≤ 6) : (1 : Int32) <<< (nI n &&& 31) = nI (2 ^ n) := by
  have h1 : ∀ n, n < 7 → (1 : Int32) <<< (nI n &&& 31) = nI (2 ^ n) := by decide +kernel
  exact h1 n (by omega)

/-! the reference finds the best price: its loops -/
theorem sbb_lt : ∀ s, s < 64 → ∀ c, c < 6 → s.testBit c = true → sbb false s c < s := by decide +kernel

/-! the reference finds the best price: all of it -/
theorem GP_le {A : Nat → Nat → Int32} {n p s q : Nat} (h : GP (apI A) (lsI A) (bmI A) n p s q) : q ≤ p := by
  obtain ⟨-, l, -, -, h⟩ := h
  exact fr_le apI_le h
