/-! facts -/
theorem upd_upd {f : Nat → Int32} {k : Nat} {x y : Int32} : upd (upd f k x) k y = upd f k y := by
  funext j
  simp only [upde]
  split <;> rfl

/-! a lot more, a card more, a campaign more -/
theorem bz_lt {n k : Nat} (hn : n < 2 ^ 31) (hk : k < 2 ^ 31) : (nI n < nI k) = (n < k) := by
  apply propext
  rw [Int32.lt_iff_toInt_lt, nI_toInt hn, nI_toInt hk]
  omega
theorem bz_eq {n k : Nat} (hn : n < 2 ^ 31) (hk : k < 2 ^ 31) : (nI n = nI k) = (n = k) := by
  apply propext
  rw [← Int32.toInt_inj, nI_toInt hn, nI_toInt hk]
  omega
theorem bz_le {n k : Nat} (hn : n < 2 ^ 31) (hk : k < 2 ^ 31) : (nI n ≤ nI k) = (n ≤ k) := by
  apply propext
  rw [Int32.le_iff_toInt_le, nI_toInt hn, nI_toInt hk]
  omega
theorem bz_rg {x : Int32} {a n : Nat} (hn : n < 2 ^ 31) (h : nI a ≤ x ∧ x ≤ nI n) (ha : a < 2 ^ 31) : ∃ m, a ≤ m ∧ m ≤ n ∧ x = nI m := by
  have h1 := Int32.le_iff_toInt_le.mp h.1
  have h2 := Int32.le_iff_toInt_le.mp h.2
  rw [nI_toInt ha] at h1
  rw [nI_toInt hn] at h2
  refine ⟨x.toInt.toNat, by omega, by omega, ?_⟩
  apply Int32.toInt_inj.mp
  rw [nI_toInt (by omega)]
  omega
theorem vlt_add {I I' : Nat → Nat → Int32} {nc nc' nl t b e : Nat} {cd og co bg en : Int32} (h : az_vlt nc nl t I) (hn : nc ≤ nc') (hcd : az_in cd nc' = true) (hog : az_in og 4 = true) (hco : 0 ≤ co.toInt ∧ co.toInt ≤ 1000) (hbg : bg = nI b) (hen : en = -1 ∨ (en = nI e ∧ b < e ∧ e ≤ 300)) (e29 : I' 29 = upd (I 29) nl cd) (e30 : I' 30 = upd (I 30) nl og) (e31 : I' 31 = upd (I 31) nl co) (e32 : I' 32 = upd (I 32) nl bg) (e33 : I' 33 = upd (I 33) nl en) : az_vlt nc' (nl + 1) t I' := by
  intro j hj
  rw [e29, e30, e31, e32, e33]
  simp only [upde]
  by_cases h1 : j = nl
  · simp only [h1, if_true]
    exact ⟨hcd, hog, ⟨hco.1, by have := hco.2; omega⟩, b, e, hbg, hen⟩
  · simp only [h1, if_false]
    obtain ⟨a1, a2, a3, a4⟩ := h j (by omega)
    exact ⟨az_in_w a1 hn, a2, a3, a4⟩
theorem vcd_add {I I' : Nat → Nat → Int32} {nc : Nat} {ch ld li fe : Int32} (h : az_vcd nc I) (h1 : az_in ch 4 = true) (h2 : az_in ld 3 = true) (h3 : az_life li) (h4 : 0 ≤ fe ∧ fe ≤ 9) (e19 : I' 19 = upd (I 19) nc ch) (e20 : I' 20 = upd (I 20) nc ld) (e21 : I' 21 = upd (I 21) nc li) (e22 : I' 22 = upd (I 22) nc fe) (e24 : ∀ j, I' 24 j = I 24 j) (e26 : I' 26 = I 26) (e27 : I' 27 = I 27) : az_vcd (nc + 1) I' := by
  have h0 := h.2 nc (Nat.le_refl _)
  refine ⟨fun i hi => ?_, fun i hi => ?_⟩
  · rw [e19, e20, e21, e22, e24, e26]
    simp only [upde]
    by_cases hh : i = nc
    · simp only [hh, if_true]
      exact ⟨⟨h1, h2⟩, h3, h4, by rw [h0.1]; decide, by rw [h0.2.1]; decide⟩
    · simp only [hh, if_false]
      exact h.1 i (by omega)
  · rw [e24, e26, e27]
    exact h.2 i (by omega)
theorem vcp_add {I I' : Nat → Nat → Int32} {ng v u : Nat} {p x y : Int32} (h : az_vcp ng I) (hp : (p = 1 ∧ v ≤ 90) ∨ (p = 0 ∧ v ≤ 200)) (hv : 1 ≤ v) (hx : x = nI v) (hy : y = nI u) (hu : u ≤ 500) (e37 : I' 37 = upd (I 37) ng p) (e38 : I' 38 = upd (I 38) ng x) (e39 : I' 39 = upd (I 39) ng y) : az_vcp (ng + 1) I' := by
  intro a ha
  rw [e37, e38, e39]
  simp only [upde]
  by_cases hh : a = ng
  · simp only [hh, if_true]
    exact ⟨v, u, hp, hv, hx, hy, hu⟩
  · simp only [hh, if_false]
    exact h a (by omega)
theorem nar0 : vp_nar FieldType.boolean 0 = 0 := by decide
theorem nar1 : vp_nar FieldType.boolean 1 = 1 := by decide

theorem bz_life {x : Int32} (h : x = 0 ∨ 6 ≤ x ∧ x ≤ 60) : az_life x := h
theorem vld_up {k : Nat} {x y : Int32} {I I' : Nat → Nat → Int32} (h : az_vld I) (hx : az_life x) (hy : 0 ≤ y ∧ y ≤ 9) (e2 : I' 2 = upd (I 2) k x) (e3 : I' 3 = upd (I 3) k y) : az_vld I' := by
  intro l hl
  rw [e2, e3, upde, upde]
  split
  · exact ⟨hx, hy⟩
  · exact h l hl
