/-! plain facts to paste, each family by itself; over the kit's nI, lN and upd -/
/-! ===== drawers: more things than places ===== -/
theorem fb_holes : ∀ (m n : Nat) (f : Nat → Nat), (∀ i, i < n → f i < m) → (∀ i j, i < j → j < n → f i ≠ f j) → n ≤ m := by
  intro m
  induction m with
  | zero =>
    intro n f h1 _
    rcases Nat.eq_zero_or_pos n with h | h
    · omega
    · exact absurd (h1 0 h) (Nat.not_lt_zero _)
  | succ m ih =>
    intro n f h1 h2
    by_cases hx : ∃ i, i < n ∧ f i = m
    · obtain ⟨a, ha, hfa⟩ := hx
      have hg := ih (n - 1) (fun i => if i < a then f i else f (i + 1)) (by
        intro i hi
        by_cases q : i < a
        · simp only [if_pos q]
          have b1 := h1 i (by omega)
          have b2 := h2 i a q ha
          omega
        · simp only [if_neg q]
          have b1 := h1 (i + 1) (by omega)
          have b2 := h2 a (i + 1) (by omega) (by omega)
          omega) (by
        intro i j hij hj
        by_cases q : i < a
        · by_cases r : j < a
          · simp only [if_pos q, if_pos r]
            exact h2 i j hij (by omega)
          · simp only [if_pos q, if_neg r]
            exact h2 i (j + 1) (by omega) (by omega)
        · have r : ¬ j < a := by omega
          simp only [if_neg q, if_neg r]
          exact h2 (i + 1) (j + 1) (by omega) (by omega))
      omega
    · have hg := ih n f (fun i hi => by
        have b1 := h1 i hi
        have b2 : f i ≠ m := fun e => hx ⟨i, hi, e⟩
        omega) h2
      omega
/-- two of them in one place -/
theorem fb_twice {m n : Nat} {f : Nat → Nat} (h : ∀ i, i < n → f i < m) (hm : m < n) : ∃ i j, i < j ∧ j < n ∧ f i = f j := by
  refine Classical.byContradiction fun hx => ?_
  have := fb_holes m n f h (fun i j hij hj e => hx ⟨i, j, hij, hj, e⟩)
  omega
/-- as many as places, none twice: each place is taken -/
theorem fb_onto {n : Nat} {f : Nat → Nat} (h : ∀ i, i < n → f i < n) (h2 : ∀ i j, i < j → j < n → f i ≠ f j) {y : Nat} (hy : y < n) : ∃ i, i < n ∧ f i = y := by
  refine Classical.byContradiction fun hx => ?_
  have hne : ∀ i, i < n → f i ≠ y := fun i hi e => hx ⟨i, hi, e⟩
  have := fb_holes (n - 1) n (fun i => if f i < y then f i else f i - 1) (by
    intro i hi
    have b1 := h i hi
    have b2 := hne i hi
    by_cases q : f i < y
    · simp only [if_pos q]; omega
    · simp only [if_neg q]; omega) (by
    intro i j hij hj
    have b1 := hne i (by omega)
    have b2 := hne j hj
    have b3 := h2 i j hij hj
    by_cases q : f i < y
    · by_cases r : f j < y
      · simp only [if_pos q, if_pos r]; exact b3
      · simp only [if_pos q, if_neg r]; omega
    · by_cases r : f j < y
      · simp only [if_neg q, if_pos r]; omega
      · simp only [if_neg q, if_neg r]; omega)
  omega
/-! ===== how many places have a property ===== -/
def fb_ct (p : Nat → Bool) : Nat → Nat
  | 0 => 0
  | n + 1 => fb_ct p n + (if p n then 1 else 0)
theorem fb_ct_succ (p : Nat → Bool) (n : Nat) : fb_ct p (n + 1) = fb_ct p n + (if p n then 1 else 0) := rfl
theorem fb_ct_le (p : Nat → Bool) : ∀ n, fb_ct p n ≤ n
  | 0 => Nat.le_refl _
  | n + 1 => by
    have h := fb_ct_le p n
    rw [fb_ct_succ]
    split <;> omega
theorem fb_ct_step (p : Nat → Bool) (m : Nat) : ∀ n, fb_ct p m ≤ fb_ct p (m + n)
  | 0 => Nat.le_refl _
  | n + 1 => by
    have h := fb_ct_step p m n
    show fb_ct p m ≤ fb_ct p (m + n + 1)
    rw [fb_ct_succ]
    omega
theorem fb_ct_mono (p : Nat → Bool) {m n : Nat} (h : m ≤ n) : fb_ct p m ≤ fb_ct p n := by
  have := fb_ct_step p m (n - m)
  rwa [Nat.add_sub_cancel' h] at this
theorem fb_ct_cong {p q : Nat → Bool} : ∀ {n : Nat}, (∀ k, k < n → p k = q k) → fb_ct p n = fb_ct q n
  | 0, _ => rfl
  | n + 1, h => by
    rw [fb_ct_succ, fb_ct_succ, fb_ct_cong (fun k hk => h k (by omega)), h n (by omega)]
/-- one place changed -/
theorem fb_ct_out (p : Nat → Bool) (b : Bool) {i n : Nat} (h : n ≤ i) : fb_ct (fun k => if k = i then b else p k) n = fb_ct p n :=
  fb_ct_cong fun k hk => if_neg (by omega)
theorem fb_ct_upd (p : Nat → Bool) (b : Bool) {i : Nat} : ∀ {n : Nat}, i < n → fb_ct (fun k => if k = i then b else p k) n + (if p i then 1 else 0) = fb_ct p n + (if b then 1 else 0)
  | 0, h => absurd h (Nat.not_lt_zero i)
  | n + 1, h => by
    rw [fb_ct_succ, fb_ct_succ]
    rcases Nat.lt_or_ge i n with q | q
    · have := fb_ct_upd p b q
      have e : (if n = i then b else p n) = p n := if_neg (by omega)
      rw [e]
      omega
    · have e : i = n := by omega
      subst e
      rw [fb_ct_out p b (Nat.le_refl _)]
      simp only [if_true]
      omega
theorem fb_ct_sub {p q : Nat → Bool} : ∀ {n : Nat}, (∀ k, k < n → p k = true → q k = true) → fb_ct p n ≤ fb_ct q n
  | 0, _ => Nat.le_refl _
  | n + 1, h => by
    have h1 := fb_ct_sub (n := n) (p := p) (q := q) (fun k hk => h k (by omega))
    have h2 := h n (by omega)
    rw [fb_ct_succ, fb_ct_succ]
    cases hp : p n <;> cases hq : q n <;> simp_all <;> omega
theorem fb_ct_or {p q : Nat → Bool} : ∀ {n : Nat}, (∀ k, k < n → ¬ (p k = true ∧ q k = true)) → fb_ct (fun k => p k || q k) n = fb_ct p n + fb_ct q n
  | 0, _ => rfl
  | n + 1, h => by
    have h1 := fb_ct_or (n := n) (p := p) (q := q) (fun k hk => h k (by omega))
    have h2 := h n (by omega)
    rw [fb_ct_succ, fb_ct_succ, fb_ct_succ, h1]
    cases hp : p n <;> cases hq : q n <;> simp_all <;> omega
theorem fb_ct_not (p : Nat → Bool) : ∀ n, fb_ct p n + fb_ct (fun k => !p k) n = n
  | 0 => rfl
  | n + 1 => by
    have h := fb_ct_not p n
    rw [fb_ct_succ, fb_ct_succ]
    cases p n <;> simp <;> omega
theorem fb_ct_split (p : Nat → Bool) (m : Nat) : ∀ n, fb_ct p (m + n) = fb_ct p m + fb_ct (fun k => p (m + k)) n
  | 0 => rfl
  | n + 1 => by
    have h := fb_ct_split p m n
    show fb_ct p (m + n + 1) = _
    rw [fb_ct_succ, fb_ct_succ, h, Nat.add_assoc]
theorem fb_ct_zero {p : Nat → Bool} : ∀ {n : Nat}, fb_ct p n = 0 ↔ ∀ k, k < n → p k = false
  | 0 => ⟨fun _ k hk => absurd hk (Nat.not_lt_zero k), fun _ => rfl⟩
  | n + 1 => by
    have h := fb_ct_zero (p := p) (n := n)
    rw [fb_ct_succ]
    constructor
    · intro e k hk
      have e1 : fb_ct p n = 0 := by omega
      rcases Nat.lt_or_ge k n with q | q
      · exact h.mp e1 k q
      · have ek : k = n := by omega
        subst ek
        cases hp : p k
        · rfl
        · simp [hp] at e
    · intro a
      rw [h.mpr (fun k hk => a k (by omega)), a n (by omega)]
      rfl
theorem fb_ct_pos {p : Nat → Bool} {n : Nat} : 0 < fb_ct p n ↔ ∃ k, k < n ∧ p k = true := by
  constructor
  · intro h
    refine Classical.byContradiction fun hx => ?_
    have := fb_ct_zero.mpr (fun k hk => by
      cases hp : p k
      · rfl
      · exact absurd ⟨k, hk, hp⟩ hx : ∀ k, k < n → p k = false)
    omega
  · rintro ⟨k, hk, hp⟩
    rcases Nat.eq_zero_or_pos (fb_ct p n) with e | e
    · have := fb_ct_zero.mp e k hk
      rw [this] at hp
      cases hp
    · exact e
theorem fb_ct_all {p : Nat → Bool} {n : Nat} : fb_ct p n = n ↔ ∀ k, k < n → p k = true := by
  have h := fb_ct_not p n
  constructor
  · intro e k hk
    have z : fb_ct (fun k => !p k) n = 0 := by omega
    have := fb_ct_zero.mp z k hk
    cases hp : p k
    · simp [hp] at this
    · rfl
  · intro a
    have z : fb_ct (fun k => !p k) n = 0 := fb_ct_zero.mpr (fun k hk => by simp [a k hk])
    omega
/-- the k-th place with the property -/
theorem fb_ct_kth {p : Nat → Bool} {k : Nat} : ∀ {n : Nat}, k < fb_ct p n → ∃ i, i < n ∧ p i = true ∧ fb_ct p i = k
  | 0, h => absurd h (Nat.not_lt_zero k)
  | n + 1, h => by
    rcases Nat.lt_or_ge k (fb_ct p n) with q | q
    · obtain ⟨i, h1, h2⟩ := fb_ct_kth q
      exact ⟨i, by omega, h2⟩
    · rw [fb_ct_succ] at h
      cases hp : p n
      · simp [hp] at h; omega
      · simp [hp] at h
        exact ⟨n, by omega, hp, by omega⟩
theorem fb_ct_kth_one {p : Nat → Bool} {i j : Nat} (hi : p i = true) (hj : p j = true) (e : fb_ct p i = fb_ct p j) : i = j := by
  have key : ∀ a b : Nat, a < b → p a = true → fb_ct p a < fb_ct p b := by
    intro a b hab ha
    have h := fb_ct_mono p (show a + 1 ≤ b from hab)
    rw [fb_ct_succ, ha] at h
    simp at h
    omega
  rcases Nat.lt_trichotomy i j with q | q | q
  · have := key i j q hi; omega
  · exact q
  · have := key j i q hj; omega
/-! ===== sums over a range: one place changed, parts, bounds ===== -/
def fb_sm (f : Nat → Nat) : Nat → Nat
  | 0 => 0
  | n + 1 => fb_sm f n + f n
theorem fb_sm_succ (f : Nat → Nat) (n : Nat) : fb_sm f (n + 1) = fb_sm f n + f n := rfl
theorem fb_sm_cong {f g : Nat → Nat} : ∀ {n : Nat}, (∀ k, k < n → f k = g k) → fb_sm f n = fb_sm g n
  | 0, _ => rfl
  | n + 1, h => by rw [fb_sm_succ, fb_sm_succ, fb_sm_cong (fun k hk => h k (by omega)), h n (by omega)]
theorem fb_sm_out (f : Nat → Nat) (v : Nat) {i n : Nat} (h : n ≤ i) : fb_sm (fun k => if k = i then v else f k) n = fb_sm f n :=
  fb_sm_cong fun k hk => if_neg (by omega)
theorem fb_sm_upd (f : Nat → Nat) (v : Nat) {i : Nat} : ∀ {n : Nat}, i < n → fb_sm (fun k => if k = i then v else f k) n + f i = fb_sm f n + v
  | 0, h => absurd h (Nat.not_lt_zero i)
  | n + 1, h => by
    rw [fb_sm_succ, fb_sm_succ]
    rcases Nat.lt_or_ge i n with q | q
    · have := fb_sm_upd f v q
      have e : (if n = i then v else f n) = f n := if_neg (by omega)
      rw [e]
      omega
    · have e : i = n := by omega
      subst e
      rw [fb_sm_out f v (Nat.le_refl _)]
      simp only [if_true]
      omega
theorem fb_sm_add (f g : Nat → Nat) : ∀ n, fb_sm (fun k => f k + g k) n = fb_sm f n + fb_sm g n
  | 0 => rfl
  | n + 1 => by
    have h := fb_sm_add f g n
    rw [fb_sm_succ, fb_sm_succ, fb_sm_succ, h]
    omega
theorem fb_sm_le {f g : Nat → Nat} : ∀ {n : Nat}, (∀ k, k < n → f k ≤ g k) → fb_sm f n ≤ fb_sm g n
  | 0, _ => Nat.le_refl _
  | n + 1, h => by
    have h1 := fb_sm_le (n := n) (f := f) (g := g) (fun k hk => h k (by omega))
    have h2 := h n (by omega)
    rw [fb_sm_succ, fb_sm_succ]
    omega
theorem fb_sm_const (c : Nat) : ∀ n, fb_sm (fun _ => c) n = n * c
  | 0 => by rw [Nat.zero_mul]; rfl
  | n + 1 => by rw [fb_sm_succ, fb_sm_const c n, Nat.succ_mul]
theorem fb_sm_bound {f : Nat → Nat} {c n : Nat} (h : ∀ k, k < n → f k ≤ c) : fb_sm f n ≤ n * c := by
  rw [← fb_sm_const c n]
  exact fb_sm_le h
theorem fb_sm_mono (f : Nat → Nat) (m : Nat) : ∀ n, fb_sm f m ≤ fb_sm f (m + n)
  | 0 => Nat.le_refl _
  | n + 1 => by
    have h := fb_sm_mono f m n
    show fb_sm f m ≤ fb_sm f (m + n + 1)
    rw [fb_sm_succ]
    omega
theorem fb_sm_part (f : Nat → Nat) {i n : Nat} (h : i < n) : fb_sm f i + f i ≤ fb_sm f n := by
  have := fb_sm_mono f (i + 1) (n - (i + 1))
  rw [fb_sm_succ, show i + 1 + (n - (i + 1)) = n by omega] at this
  exact this
theorem fb_sm_split (f : Nat → Nat) (m : Nat) : ∀ n, fb_sm f (m + n) = fb_sm f m + fb_sm (fun k => f (m + k)) n
  | 0 => rfl
  | n + 1 => by
    have h := fb_sm_split f m n
    show fb_sm f (m + n + 1) = _
    rw [fb_sm_succ, fb_sm_succ, h, Nat.add_assoc]
theorem fb_sm_zero {f : Nat → Nat} {n : Nat} (h : fb_sm f n = 0) : ∀ k, k < n → f k = 0 := fun k hk => by
  have := fb_sm_part f hk
  omega
/-- the same over whole numbers -/
def fb_si (f : Nat → Int) : Nat → Int
  | 0 => 0
  | n + 1 => fb_si f n + f n
theorem fb_si_succ (f : Nat → Int) (n : Nat) : fb_si f (n + 1) = fb_si f n + f n := rfl
theorem fb_si_cong {f g : Nat → Int} : ∀ {n : Nat}, (∀ k, k < n → f k = g k) → fb_si f n = fb_si g n
  | 0, _ => rfl
  | n + 1, h => by rw [fb_si_succ, fb_si_succ, fb_si_cong (fun k hk => h k (by omega)), h n (by omega)]
theorem fb_si_out (f : Nat → Int) (v : Int) {i n : Nat} (h : n ≤ i) : fb_si (fun k => if k = i then v else f k) n = fb_si f n :=
  fb_si_cong fun k hk => if_neg (by omega)
theorem fb_si_upd (f : Nat → Int) (v : Int) {i : Nat} : ∀ {n : Nat}, i < n → fb_si (fun k => if k = i then v else f k) n = fb_si f n - f i + v
  | 0, h => absurd h (Nat.not_lt_zero i)
  | n + 1, h => by
    rw [fb_si_succ, fb_si_succ]
    rcases Nat.lt_or_ge i n with q | q
    · have := fb_si_upd f v q
      have e : (if n = i then v else f n) = f n := if_neg (by omega)
      rw [e]
      omega
    · have e : i = n := by omega
      subst e
      rw [fb_si_out f v (Nat.le_refl _)]
      simp only [if_true]
      omega
theorem fb_si_add (f g : Nat → Int) : ∀ n, fb_si (fun k => f k + g k) n = fb_si f n + fb_si g n
  | 0 => rfl
  | n + 1 => by
    have h := fb_si_add f g n
    rw [fb_si_succ, fb_si_succ, fb_si_succ, h]
    omega
theorem fb_si_sub (f g : Nat → Int) : ∀ n, fb_si (fun k => f k - g k) n = fb_si f n - fb_si g n
  | 0 => rfl
  | n + 1 => by
    have h := fb_si_sub f g n
    rw [fb_si_succ, fb_si_succ, fb_si_succ, h]
    omega
theorem fb_si_mul (c : Int) (f : Nat → Int) : ∀ n, fb_si (fun k => c * f k) n = c * fb_si f n
  | 0 => (Int.mul_zero c).symm
  | n + 1 => by
    have h := fb_si_mul c f n
    rw [fb_si_succ, fb_si_succ, h, Int.mul_add]
theorem fb_si_split (f : Nat → Int) (m : Nat) : ∀ n, fb_si f (m + n) = fb_si f m + fb_si (fun k => f (m + k)) n
  | 0 => (Int.add_zero _).symm
  | n + 1 => by
    have h := fb_si_split f m n
    show fb_si f (m + n + 1) = _
    rw [fb_si_succ, fb_si_succ, h, Int.add_assoc]
theorem fb_si_nat (f : Nat → Nat) : ∀ n, fb_si (fun k => (f k : Int)) n = (fb_sm f n : Int)
  | 0 => rfl
  | n + 1 => by
    have h := fb_si_nat f n
    rw [fb_si_succ, fb_sm_succ, h]
    omega
theorem fb_si_bound {f : Nat → Int} {c : Int} (hc : 0 ≤ c) : ∀ {n : Nat}, (∀ k, k < n → -c ≤ f k ∧ f k ≤ c) → -(n * c) ≤ fb_si f n ∧ fb_si f n ≤ n * c
  | 0, _ => by simp [fb_si]
  | n + 1, h => by
    have h1 := fb_si_bound (n := n) (f := f) hc (fun k hk => h k (by omega))
    have h2 := h n (by omega)
    have e : ((n + 1 : Nat) : Int) * c = n * c + c := by rw [Int.natCast_add, Int.add_mul]; simp
    rw [fb_si_succ, e]
    omega
/-! ===== bits of a long that isn't negative ===== -/
theorem fb_andL (a b : Nat) : lN a &&& lN b = lN (a &&& b) := by
  apply Int64.toBitVec_inj.1
  show BitVec.ofNat 64 a &&& BitVec.ofNat 64 b = BitVec.ofNat 64 (a &&& b)
  apply BitVec.eq_of_getLsbD_eq
  intro i hi
  simp [hi]
theorem fb_orL (a b : Nat) : lN a ||| lN b = lN (a ||| b) := by
  apply Int64.toBitVec_inj.1
  show BitVec.ofNat 64 a ||| BitVec.ofNat 64 b = BitVec.ofNat 64 (a ||| b)
  apply BitVec.eq_of_getLsbD_eq
  intro i hi
  simp [hi]
theorem fb_xorL (a b : Nat) : lN a ^^^ lN b = lN (a ^^^ b) := by
  apply Int64.toBitVec_inj.1
  show BitVec.ofNat 64 a ^^^ BitVec.ofNat 64 b = BitVec.ofNat 64 (a ^^^ b)
  apply BitVec.eq_of_getLsbD_eq
  intro i hi
  simp [hi]
theorem fb_xorI (a b : Nat) : nI a ^^^ nI b = nI (a ^^^ b) := by
  apply Int32.toBitVec_inj.1
  show BitVec.ofNat 32 a ^^^ BitVec.ofNat 32 b = BitVec.ofNat 32 (a ^^^ b)
  apply BitVec.eq_of_getLsbD_eq
  intro i hi
  simp [hi]
theorem fb_maskL (n k : Nat) : lN n &&& lN (2 ^ k - 1) = lN (n % 2 ^ k) := by rw [fb_andL, Nat.and_two_pow_sub_one_eq_mod]
theorem fb_or_sumL {a k : Nat} (b : Nat) (h : a < 2 ^ k) : lN (2 ^ k * b) ||| lN a = lN (2 ^ k * b + a) := by rw [fb_orL, Nat.two_pow_add_eq_or_of_lt h]
theorem fb_lN_inj {a b : Nat} (ha : a < 2 ^ 63) (hb : b < 2 ^ 63) : lN a = lN b ↔ a = b := by
  constructor
  · intro h
    have h1 : (BitVec.ofNat 64 a).toNat = (BitVec.ofNat 64 b).toNat := congrArg (fun x : Int64 => x.toBitVec.toNat) h
    rw [BitVec.toNat_ofNat, BitVec.toNat_ofNat, Nat.mod_eq_of_lt (by omega), Nat.mod_eq_of_lt (by omega)] at h1
    exact h1
  · rintro rfl; rfl
theorem fb_bit_nat (n j : Nat) : n &&& 2 ^ j = 0 ↔ n.testBit j = false := by
  constructor
  · intro h
    have h1 : (n &&& 2 ^ j).testBit j = false := by rw [h]; simp
    rw [Nat.testBit_and] at h1
    simpa using h1
  · intro h
    apply Nat.eq_of_testBit_eq
    intro i
    rw [Nat.testBit_and]
    by_cases hi : j = i
    · subst hi; simp [h]
    · first | (simp [Nat.testBit_two_pow, hi]; done) | (simp [Nat.testBit_two_pow_of_ne hi]; done)
/-- one bit of a long -/
theorem fb_bitL {n j : Nat} (hj : j < 63) : lN n &&& lN (2 ^ j) = 0 ↔ n.testBit j = false := by
  have h2 : (2 : Nat) ^ j < 2 ^ 63 := Nat.pow_lt_pow_right (by decide) hj
  have hle : n &&& 2 ^ j ≤ 2 ^ j := Nat.and_le_right
  rw [fb_andL, ← fb_bit_nat, show (0 : Int64) = lN 0 from rfl]
  exact fb_lN_inj (by omega) (by decide)
/-- a bit set, a bit taken off -/
theorem fb_bit_set (n j i : Nat) : (n ||| 2 ^ j).testBit i = (n.testBit i || decide (i = j)) := by
  rw [Nat.testBit_or]
  by_cases h : j = i
  · subst h; simp
  · have h2 : ¬ i = j := fun e => h e.symm
    first | (simp [Nat.testBit_two_pow, h, h2]; done) | (simp [Nat.testBit_two_pow_of_ne h, h2]; done)
theorem fb_bit_flip (n j i : Nat) : (n ^^^ 2 ^ j).testBit i = (n.testBit i ^^ decide (i = j)) := by
  rw [Nat.testBit_xor]
  by_cases h : j = i
  · subst h; simp
  · have h2 : ¬ i = j := fun e => h e.symm
    first | (simp [Nat.testBit_two_pow, h, h2]; done) | (simp [Nat.testBit_two_pow_of_ne h, h2]; done)
/-! ===== a stretch of an array written over by a function ===== -/
def fb_put {α : Type} (f g : Nat → α) (a n : Nat) : Nat → α := fun k => if a ≤ k ∧ k < a + n then g (k - a) else f k
theorem fb_put_0 {α : Type} (f g : Nat → α) (a : Nat) : fb_put f g a 0 = f := funext fun k => if_neg (by omega)
theorem fb_put_in {α : Type} {f g : Nat → α} {a n k : Nat} (h1 : a ≤ k) (h2 : k < a + n) : fb_put f g a n k = g (k - a) := if_pos ⟨h1, h2⟩
theorem fb_put_out {α : Type} {f g : Nat → α} {a n k : Nat} (h : k < a ∨ a + n ≤ k) : fb_put f g a n k = f k := if_neg (by omega)
theorem fb_put_succ (f g : Nat → Int32) (a n : Nat) : upd (fb_put f g a n) (a + n) (g n) = fb_put f g a (n + 1) := by
  funext k
  by_cases h : k = a + n
  · subst h
    simp [upd, fb_put]
  · by_cases h1 : a ≤ k ∧ k < a + n
    · have h2 : a ≤ k ∧ k < a + (n + 1) := by omega
      simp only [upd, fb_put, if_neg h, if_pos h1, if_pos h2]
    · have h2 : ¬ (a ≤ k ∧ k < a + (n + 1)) := by omega
      simp only [upd, fb_put, if_neg h, if_neg h1, if_neg h2]
/-- .. from the far end down -/
theorem fb_put_down (f g : Nat → Int32) {a n m : Nat} (h : m < n) : upd (fb_put f (fun k => g (k + (m + 1))) (a + (m + 1)) (n - (m + 1))) (a + m) (g m) = fb_put f (fun k => g (k + m)) (a + m) (n - m) := by
  funext k
  by_cases h0 : k = a + m
  · subst h0
    simp only [upd, if_true]
    rw [fb_put_in (by omega) (by omega)]
    exact congrArg g (by omega)
  · simp only [upd, if_neg h0]
    by_cases h1 : a + (m + 1) ≤ k ∧ k < a + (m + 1) + (n - (m + 1))
    · rw [fb_put_in h1.1 h1.2, fb_put_in (by omega) (by omega)]
      exact congrArg g (by omega)
    · rw [fb_put_out (by omega), fb_put_out (by omega)]
theorem fb_put_cong {α : Type} {f f2 g g2 : Nat → α} {a n : Nat} (hf : ∀ k, (k < a ∨ a + n ≤ k) → f k = f2 k) (hg : ∀ k, k < n → g k = g2 k) : fb_put f g a n = fb_put f2 g2 a n := by
  funext k
  by_cases h : a ≤ k ∧ k < a + n
  · rw [fb_put_in h.1 h.2, fb_put_in h.1 h.2, hg _ (by omega)]
  · rw [fb_put_out (by omega), fb_put_out (by omega), hf _ (by omega)]
/-! ===== the least, the first, the best so far; that there is one alone ===== -/
theorem fb_first {p : Nat → Prop} [DecidablePred p] : ∀ {n : Nat}, (∃ i, i < n ∧ p i) → ∃ i, i < n ∧ p i ∧ ∀ j, j < i → ¬ p j
  | 0, h => by obtain ⟨i, hi, -⟩ := h; exact absurd hi (Nat.not_lt_zero i)
  | n + 1, h => by
    by_cases q : ∃ i, i < n ∧ p i
    · obtain ⟨i, h1, h2⟩ := fb_first q
      exact ⟨i, by omega, h2⟩
    · obtain ⟨i, h1, h2⟩ := h
      have e : i = n := by
        rcases Nat.lt_or_ge i n with r | r
        · exact absurd ⟨i, r, h2⟩ q
        · omega
      subst e
      exact ⟨i, by omega, h2, fun j hj hp => q ⟨j, hj, hp⟩⟩
theorem fb_first_one {p : Nat → Prop} {i j : Nat} (hi : p i) (hi2 : ∀ k, k < i → ¬ p k) (hj : p j) (hj2 : ∀ k, k < j → ¬ p k) : i = j := by
  rcases Nat.lt_trichotomy i j with q | q | q
  · exact absurd hi (hj2 i q)
  · exact q
  · exact absurd hj (hi2 j q)
theorem fb_last {p : Nat → Prop} [DecidablePred p] : ∀ {n : Nat}, (∃ i, i < n ∧ p i) → ∃ i, i < n ∧ p i ∧ ∀ j, i < j → j < n → ¬ p j
  | 0, h => by obtain ⟨i, hi, -⟩ := h; exact absurd hi (Nat.not_lt_zero i)
  | n + 1, h => by
    by_cases q : p n
    · exact ⟨n, by omega, q, fun j h1 h2 => by omega⟩
    · obtain ⟨i, h1, h2⟩ := h
      have hi : i < n := by
        rcases Nat.lt_or_ge i n with r | r
        · exact r
        · have e : i = n := by omega
          subst e
          exact absurd h2 q
      obtain ⟨i2, a1, a2, a3⟩ := fb_last (n := n) ⟨i, hi, h2⟩
      refine ⟨i2, by omega, a2, fun j b1 b2 => ?_⟩
      rcases Nat.lt_or_ge j n with r | r
      · exact a3 j b1 r
      · have e : j = n := by omega
        subst e
        exact q
/-- the first greatest -/
theorem fb_best (f : Nat → Int) : ∀ {n : Nat}, 0 < n → ∃ i, i < n ∧ (∀ j, j < n → f j ≤ f i) ∧ ∀ j, j < i → f j < f i
  | 0, h => absurd h (Nat.lt_irrefl 0)
  | 1, _ => ⟨0, by omega, fun j hj => by have e : j = 0 := by omega
                                         subst e; exact Int.le_refl _, fun j hj => absurd hj (Nat.not_lt_zero j)⟩
  | n + 2, _ => by
    obtain ⟨i, h1, h2, h3⟩ := fb_best f (n := n + 1) (by omega)
    by_cases q : f i < f (n + 1)
    · refine ⟨n + 1, by omega, fun j hj => ?_, fun j hj => ?_⟩
      · rcases Nat.lt_or_ge j (n + 1) with r | r
        · have := h2 j r; omega
        · have e : j = n + 1 := by omega
          subst e; exact Int.le_refl _
      · have := h2 j hj; omega
    · refine ⟨i, by omega, fun j hj => ?_, h3⟩
      rcases Nat.lt_or_ge j (n + 1) with r | r
      · exact h2 j r
      · have e : j = n + 1 := by omega
        subst e; omega
theorem fb_best_one {f : Nat → Int} {n i j : Nat} (hi : i < n) (hi2 : ∀ k, k < n → f k ≤ f i) (hi3 : ∀ k, k < i → f k < f i) (hj : j < n) (hj2 : ∀ k, k < n → f k ≤ f j) (hj3 : ∀ k, k < j → f k < f j) : i = j := by
  rcases Nat.lt_trichotomy i j with q | q | q
  · have a := hj3 i q
    have b := hi2 j hj
    omega
  · exact q
  · have a := hi3 j q
    have b := hj2 i hi
    omega
/-- the first least -/
theorem fb_low (f : Nat → Int) {n : Nat} (h : 0 < n) : ∃ i, i < n ∧ (∀ j, j < n → f i ≤ f j) ∧ ∀ j, j < i → f i < f j := by
  obtain ⟨i, h1, h2, h3⟩ := fb_best (fun k => -f k) h
  exact ⟨i, h1, fun j hj => by have := h2 j hj; omega, fun j hj => by have := h3 j hj; omega⟩
/-! ===== signed ints as whole numbers, within bounds ===== -/
theorem fb_rng (x : Int32) : -2147483648 ≤ x.toInt ∧ x.toInt < 2147483648 := by
  have h1 := Int32.le_toInt x
  have h2 := Int32.toInt_lt x
  omega
theorem fb_bmod {z : Int} (h1 : -2147483648 ≤ z) (h2 : z < 2147483648) : z.bmod (2 ^ 32) = z := by
  rw [Int.bmod_eq_of_le (by omega) (by omega)]
theorem fb_addI {x y : Int32} (h1 : -2147483648 ≤ x.toInt + y.toInt) (h2 : x.toInt + y.toInt < 2147483648) : (x + y).toInt = x.toInt + y.toInt := by
  rw [Int32.toInt_add, fb_bmod h1 h2]
theorem fb_subI {x y : Int32} (h1 : -2147483648 ≤ x.toInt - y.toInt) (h2 : x.toInt - y.toInt < 2147483648) : (x - y).toInt = x.toInt - y.toInt := by
  rw [Int32.toInt_sub, fb_bmod h1 h2]
theorem fb_mulI {x y : Int32} (h1 : -2147483648 ≤ x.toInt * y.toInt) (h2 : x.toInt * y.toInt < 2147483648) : (x * y).toInt = x.toInt * y.toInt := by
  rw [Int32.toInt_mul, fb_bmod h1 h2]
theorem fb_negI {x : Int32} (h : x.toInt ≠ -2147483648) : (-x).toInt = -x.toInt := by
  have := fb_rng x
  rw [Int32.toInt_neg, fb_bmod (by omega) (by omega)]
theorem fb_ofI {z : Int} (h1 : -2147483648 ≤ z) (h2 : z < 2147483648) : (Int32.ofInt z).toInt = z := by
  rw [Int32.toInt_ofInt, fb_bmod h1 h2]
theorem fb_asI (x : Int32) : Int32.ofInt x.toInt = x := Int32.ofInt_toInt x
theorem fb_rngL (x : Int64) : -9223372036854775808 ≤ x.toInt ∧ x.toInt < 9223372036854775808 := by
  have h1 := Int64.le_toInt x
  have h2 := Int64.toInt_lt x
  omega
theorem fb_bmodL {z : Int} (h1 : -9223372036854775808 ≤ z) (h2 : z < 9223372036854775808) : z.bmod (2 ^ 64) = z := by
  rw [Int.bmod_eq_of_le (by omega) (by omega)]
theorem fb_addL {x y : Int64} (h1 : -9223372036854775808 ≤ x.toInt + y.toInt) (h2 : x.toInt + y.toInt < 9223372036854775808) : (x + y).toInt = x.toInt + y.toInt := by
  rw [Int64.toInt_add, fb_bmodL h1 h2]
theorem fb_subL {x y : Int64} (h1 : -9223372036854775808 ≤ x.toInt - y.toInt) (h2 : x.toInt - y.toInt < 9223372036854775808) : (x - y).toInt = x.toInt - y.toInt := by
  rw [Int64.toInt_sub, fb_bmodL h1 h2]
theorem fb_mulL {x y : Int64} (h1 : -9223372036854775808 ≤ x.toInt * y.toInt) (h2 : x.toInt * y.toInt < 9223372036854775808) : (x * y).toInt = x.toInt * y.toInt := by
  rw [Int64.toInt_mul, fb_bmodL h1 h2]
/-! ===== cuts of what is narrow already ===== -/
theorem fb_byte {x : Int32} (h1 : -128 ≤ x.toInt) (h2 : x.toInt < 128) : x.toInt8.toInt32 = x := by
  apply Int32.toInt_inj.1
  rw [Int8.toInt_toInt32, Int32.toInt_toInt8, Int.bmod_eq_of_le (by omega) (by omega)]
theorem fb_short {x : Int32} (h1 : -32768 ≤ x.toInt) (h2 : x.toInt < 32768) : x.toInt16.toInt32 = x := by
  apply Int32.toInt_inj.1
  rw [Int16.toInt_toInt32, Int32.toInt_toInt16, Int.bmod_eq_of_le (by omega) (by omega)]
theorem fb_byte_rng (x : Int32) : -128 ≤ x.toInt8.toInt32.toInt ∧ x.toInt8.toInt32.toInt < 128 := by
  rw [Int8.toInt_toInt32]
  have h1 := Int8.le_toInt x.toInt8
  have h2 := Int8.toInt_lt x.toInt8
  omega
theorem fb_short_rng (x : Int32) : -32768 ≤ x.toInt16.toInt32.toInt ∧ x.toInt16.toInt32.toInt < 32768 := by
  rw [Int16.toInt_toInt32]
  have h1 := Int16.le_toInt x.toInt16
  have h2 := Int16.toInt_lt x.toInt16
  omega
theorem fb_byte_twice (x : Int32) : x.toInt8.toInt32.toInt8.toInt32 = x.toInt8.toInt32 := fb_byte (fb_byte_rng x).1 (fb_byte_rng x).2
theorem fb_short_twice (x : Int32) : x.toInt16.toInt32.toInt16.toInt32 = x.toInt16.toInt32 := fb_short (fb_short_rng x).1 (fb_short_rng x).2
theorem fb_char {n : Nat} (h : n < 65536) : (nI n).toUInt32.toUInt16.toUInt32.toInt32 = nI n := by
  apply Int32.toBitVec_inj.1
  apply BitVec.eq_of_toNat_eq
  have e1 : (nI n).toBitVec.toNat = n := by
    show (BitVec.ofNat 32 n).toNat = n
    rw [BitVec.toNat_ofNat, Nat.mod_eq_of_lt (by omega)]
  have e2 : ((nI n).toUInt32.toUInt16.toUInt32).toNat = n := by
    rw [UInt16.toNat_toUInt32, UInt32.toNat_toUInt16]
    show (nI n).toBitVec.toNat % 2 ^ 16 = n
    rw [e1, Nat.mod_eq_of_lt (by omega)]
  rw [e1]
  exact e2

/-! the state of the class: what its cells say -/
theorem az_upe {I : Nat → Nat → Int32} {a b k : Nat} {x : Int32} : az_up I a k x b = if b = a then upd (I a) k x else I b := by
  by_cases h : b = a
  · subst h; rw [if_pos rfl, az_up_self]
  · rw [if_neg h, az_up_ne h]
theorem az_upje {J : Nat → Nat → Int64} {a k : Nat} {x : Int64} : az_upJ J a k x a k = x := by simp [az_upJ]
theorem upd_at {f : Nat → Int32} {k : Nat} {x : Int32} : upd f k x k = x := by simp [upd]
/-- an END as the reference keeps it -/
def az_nv (x : Int32) : Int32 := if x = -1 then 100000 else x
def az_life (x : Int32) : Prop := x = 0 ∨ (6 ≤ x ∧ x ≤ 60)
def az_vld (I : Nat → Nat → Int32) : Prop := ∀ l, l < 3 → az_life (I 2 l) ∧ (0 ≤ I 3 l ∧ I 3 l ≤ 9)
def az_vch (I : Nat → Nat → Int32) : Prop := ∀ c, c < 4 → I 6 c = 0 ∨ I 6 c = 1
def az_vcd (nc : Nat) (I : Nat → Nat → Int32) : Prop := (∀ i, i < nc → (az_in (I 19 i) 4 = true ∧ az_in (I 20 i) 3 = true) ∧ az_life (I 21 i) ∧ (0 ≤ I 22 i ∧ I 22 i ≤ 9) ∧ az_in (I 24 i) 3 = true ∧ az_in (I 26 i) 3 = true) ∧ ∀ i, nc ≤ i → I 24 i = 0 ∧ I 26 i = 0 ∧ I 27 i = 0
def az_vlt (nc nl t : Nat) (I : Nat → Nat → Int32) : Prop := ∀ j, j < nl → az_in (I 29 j) nc = true ∧ az_in (I 30 j) 4 = true ∧ (0 ≤ (I 31 j).toInt ∧ (I 31 j).toInt ≤ 1000 * (t + 1)) ∧ ∃ b e : Nat, I 32 j = nI b ∧ (I 33 j = -1 ∨ (I 33 j = nI e ∧ b < e ∧ e ≤ 300))
def az_vcp (ng : Nat) (I : Nat → Nat → Int32) : Prop := ∀ a, a < ng → ∃ v u : Nat, ((I 37 a = 1 ∧ v ≤ 90) ∨ (I 37 a = 0 ∧ v ≤ 200)) ∧ 1 ≤ v ∧ I 38 a = nI v ∧ I 39 a = nI u ∧ u ≤ 500
def az_set (I : Nat → Nat → Int32) (a : Nat) (f : Nat → Int32) : Nat → Nat → Int32 := fun b => if b = a then f else I b
theorem az_sete {I : Nat → Nat → Int32} {a b : Nat} {f : Nat → Int32} : az_set I a f b = if b = a then f else I b := rfl
theorem az_set_ne {I : Nat → Nat → Int32} {a b : Nat} {f : Nat → Int32} (h : b ≠ a) : az_set I a f b = I b := if_neg h
theorem az_up_set {I : Nat → Nat → Int32} {a k : Nat} {x : Int32} : az_up I a k x = az_set I a (upd (I a) k x) := by
  funext b
  rw [az_upe, az_sete]
theorem upde {f : Nat → Int32} {k j : Nat} {x : Int32} : upd f k x j = if j = k then x else f j := rfl
theorem az_in01 : az_in 0 1 = true := by decide
theorem az_c0 : Int32.toNatClampNeg 0 = 0 := by decide
theorem az_vlt_t {nc nl t : Nat} {I : Nat → Nat → Int32} (h : az_vlt nc nl t I) : az_vlt nc nl (t + 1) I := fun j hj => by
  obtain ⟨h1, h2, h3, h4⟩ := h j hj
  exact ⟨h1, h2, ⟨h3.1, by have := h3.2; omega⟩, h4⟩
theorem az_in_le {k : Int32} {n : Nat} (hn : n < 2 ^ 30) : (0 ≤ k ∧ k ≤ nI n) ↔ az_in k (n + 1) = true := by
  rw [az_int, Int32.le_iff_toInt_le, Int32.le_iff_toInt_le, nI_toInt (by omega)]
  have : (0 : Int32).toInt = 0 := rfl
  rw [this]
  omega
theorem az_in_lm {k : Int32} {n : Nat} (hn : n < 2 ^ 30) : (0 ≤ k ∧ k ≤ nI n - 1) ↔ az_in k n = true := by
  cases n with
  | zero =>
    rw [az_int, Int32.le_iff_toInt_le, Int32.le_iff_toInt_le]
    have e1 : (0 : Int32).toInt = 0 := rfl
    have e2 : (nI 0 - 1).toInt = -1 := by decide
    rw [e1, e2]
    constructor <;> (intro h; exfalso; omega)
  | succ m => rw [nI_pred, az_in_le (by omega)]
def az_ebar (I : Nat → Nat → Int32) : Prop := ∀ a, a < 6 → ∃ m : Nat, m < 64 ∧ I 40 a = nI m ∧ (m.testBit a = false) ∧ ∀ b, b < 6 → (I 40 b).toNatClampNeg.testBit a = m.testBit b
abbrev St : Type := Nat → Nat → Int32
def kw (a : Nat) : Bool := [2, 3, 4, 6, 7, 8, 9, 10, 11, 12, 13, 19, 20, 21, 22, 23, 24, 25, 26, 27, 29, 30, 31, 32, 33, 37, 38, 39, 40, 107, 108, 109, 110].contains a || (Nat.ble 112 a && Nat.blt a 152)
def kq (a j : Nat) : Bool := kw a || ((Nat.ble 15 a && Nat.ble a 17 && Nat.blt j 4) || ((a == 0 && j == 6) || (a == 18 && j == 9) || (a == 28 && j == 7) || (a == 36 && j == 7) || (a == 106 && j == 5)))
/-- what of the first object's cells counts -/
def kr (I : St) : St := fun a j => if kq a j = true then I a j else 0
/-- nothing of the second object's cells has changed -/
def Fr (I I' : St) : Prop := ∀ a, 152 ≤ a → I' a = I a
theorem Fr_rf {I : St} : Fr I I := fun _ _ => rfl
theorem Fr_tr {I I1 I2 : St} (h : Fr I I1) (h2 : Fr I1 I2) : Fr I I2 := fun a ha => (h2 a ha).trans (h a ha)
theorem kq_of {a j : Nat} (h : kw a = true) : kq a j = true := by unfold kq; rw [h]; rfl
theorem kr_up {I : St} {a k : Nat} {x : Int32} (h : kq a k = true) : kr (az_up I a k x) = az_up (kr I) a k x := by
  funext b j
  show (if kq b j = true then (if b = a ∧ j = k then x else I b j) else 0) = (if b = a ∧ j = k then x else if kq b j = true then I b j else 0)
  by_cases hb : b = a ∧ j = k
  · rw [if_pos hb, if_pos hb, if_pos (by rw [hb.1, hb.2]; exact h)]
  · rw [if_neg hb, if_neg hb]
theorem kr_up0 {I : St} {a k : Nat} {x : Int32} (h : kq a k = false) : kr (az_up I a k x) = kr I := by
  funext b j
  show (if kq b j = true then (if b = a ∧ j = k then x else I b j) else 0) = (if kq b j = true then I b j else 0)
  by_cases hb : b = a ∧ j = k
  · rw [if_neg (by rw [hb.1, hb.2, h]; decide), if_neg (by rw [hb.1, hb.2, h]; decide)]
  · rw [if_neg hb]
theorem kr_set {I : St} {a : Nat} {f : Nat → Int32} (h : kw a = true) : kr (az_set I a f) = az_set (kr I) a f := by
  funext b j
  show (if kq b j = true then (if b = a then f else I b) j else 0) = (if b = a then f else fun j => if kq b j = true then I b j else 0) j
  by_cases hb : b = a
  · rw [if_pos hb, if_pos hb, if_pos (by rw [hb]; exact kq_of h)]
  · rw [if_neg hb, if_neg hb]
theorem kr_set0 {I : St} {a : Nat} {f : Nat → Int32} (h : ∀ j, kq a j = false) : kr (az_set I a f) = kr I := by
  funext b j
  show (if kq b j = true then (if b = a then f else I b) j else 0) = (if kq b j = true then I b j else 0)
  by_cases hb : b = a
  · rw [if_neg (by rw [hb, h]; decide), if_neg (by rw [hb, h]; decide)]
  · rw [if_neg hb]
theorem kr_eq {I I' : St} (h : ∀ a j, kq a j = true → I' a j = I a j) : kr I' = kr I := by
  funext a j
  show (if kq a j = true then I' a j else 0) = (if kq a j = true then I a j else 0)
  split
  · rename_i hq; exact h a j hq
  · rfl
theorem kr_w {I : St} {a : Nat} (h : kw a = true) : kr I a = I a := by
  funext j
  exact if_pos (kq_of h)
theorem kr_f {I : St} {a j : Nat} (h : kq a j = true) : kr I a j = I a j := if_pos h
theorem kr_kr {I : St} : kr (kr I) = kr I := by
  funext a j
  show (if kq a j = true then (if kq a j = true then I a j else 0) else 0) = (if kq a j = true then I a j else 0)
  by_cases h : kq a j = true
  · rw [if_pos h]
  · rw [if_neg h, if_neg h]
theorem kw_op {p : Nat} (h : p < 40) : kw (112 + p) = true := by
  unfold kw
  have h1 : Nat.ble 112 (112 + p) = true := Nat.ble_eq.mpr (by omega)
  have h2 : Nat.blt (112 + p) 152 = true := by unfold Nat.blt; exact Nat.ble_eq.mpr (by omega)
  rw [h1, h2]
  simp
theorem kr_op {I : St} {p : Nat} (h : p < 40) : kr I (112 + p) = I (112 + p) := kr_w (kw_op h)
theorem kw2 : kw 2 = true := by decide
theorem kr2 {I : St} : kr I 2 = I 2 := rfl
theorem kru2 {I : St} {k : Nat} {x : Int32} : kr (az_up I 2 k x) = az_up (kr I) 2 k x := kr_up (kq_of kw2)
theorem krs2 {I : St} {f : Nat → Int32} : kr (az_set I 2 f) = az_set (kr I) 2 f := kr_set kw2
theorem kw3 : kw 3 = true := by decide
theorem kr3 {I : St} : kr I 3 = I 3 := rfl
theorem kru3 {I : St} {k : Nat} {x : Int32} : kr (az_up I 3 k x) = az_up (kr I) 3 k x := kr_up (kq_of kw3)
theorem krs3 {I : St} {f : Nat → Int32} : kr (az_set I 3 f) = az_set (kr I) 3 f := kr_set kw3
theorem kw4 : kw 4 = true := by decide
theorem kr4 {I : St} : kr I 4 = I 4 := rfl
theorem kru4 {I : St} {k : Nat} {x : Int32} : kr (az_up I 4 k x) = az_up (kr I) 4 k x := kr_up (kq_of kw4)
theorem krs4 {I : St} {f : Nat → Int32} : kr (az_set I 4 f) = az_set (kr I) 4 f := kr_set kw4
theorem kw6 : kw 6 = true := by decide
theorem kr6 {I : St} : kr I 6 = I 6 := rfl
theorem kru6 {I : St} {k : Nat} {x : Int32} : kr (az_up I 6 k x) = az_up (kr I) 6 k x := kr_up (kq_of kw6)
theorem krs6 {I : St} {f : Nat → Int32} : kr (az_set I 6 f) = az_set (kr I) 6 f := kr_set kw6
theorem kw7 : kw 7 = true := by decide
theorem kr7 {I : St} : kr I 7 = I 7 := rfl
theorem kru7 {I : St} {k : Nat} {x : Int32} : kr (az_up I 7 k x) = az_up (kr I) 7 k x := kr_up (kq_of kw7)
theorem krs7 {I : St} {f : Nat → Int32} : kr (az_set I 7 f) = az_set (kr I) 7 f := kr_set kw7
theorem kw8 : kw 8 = true := by decide
theorem kr8 {I : St} : kr I 8 = I 8 := rfl
theorem kru8 {I : St} {k : Nat} {x : Int32} : kr (az_up I 8 k x) = az_up (kr I) 8 k x := kr_up (kq_of kw8)
theorem krs8 {I : St} {f : Nat → Int32} : kr (az_set I 8 f) = az_set (kr I) 8 f := kr_set kw8
theorem kw9 : kw 9 = true := by decide
theorem kr9 {I : St} : kr I 9 = I 9 := rfl
theorem kru9 {I : St} {k : Nat} {x : Int32} : kr (az_up I 9 k x) = az_up (kr I) 9 k x := kr_up (kq_of kw9)
theorem krs9 {I : St} {f : Nat → Int32} : kr (az_set I 9 f) = az_set (kr I) 9 f := kr_set kw9
theorem kw10 : kw 10 = true := by decide
theorem kr10 {I : St} : kr I 10 = I 10 := rfl
theorem kru10 {I : St} {k : Nat} {x : Int32} : kr (az_up I 10 k x) = az_up (kr I) 10 k x := kr_up (kq_of kw10)
theorem krs10 {I : St} {f : Nat → Int32} : kr (az_set I 10 f) = az_set (kr I) 10 f := kr_set kw10
theorem kw11 : kw 11 = true := by decide
theorem kr11 {I : St} : kr I 11 = I 11 := rfl
theorem kru11 {I : St} {k : Nat} {x : Int32} : kr (az_up I 11 k x) = az_up (kr I) 11 k x := kr_up (kq_of kw11)
theorem krs11 {I : St} {f : Nat → Int32} : kr (az_set I 11 f) = az_set (kr I) 11 f := kr_set kw11
theorem kw12 : kw 12 = true := by decide
theorem kr12 {I : St} : kr I 12 = I 12 := rfl
theorem kru12 {I : St} {k : Nat} {x : Int32} : kr (az_up I 12 k x) = az_up (kr I) 12 k x := kr_up (kq_of kw12)
theorem krs12 {I : St} {f : Nat → Int32} : kr (az_set I 12 f) = az_set (kr I) 12 f := kr_set kw12
theorem kw13 : kw 13 = true := by decide
theorem kr13 {I : St} : kr I 13 = I 13 := rfl
theorem kru13 {I : St} {k : Nat} {x : Int32} : kr (az_up I 13 k x) = az_up (kr I) 13 k x := kr_up (kq_of kw13)
theorem krs13 {I : St} {f : Nat → Int32} : kr (az_set I 13 f) = az_set (kr I) 13 f := kr_set kw13
theorem kw19 : kw 19 = true := by decide
theorem kr19 {I : St} : kr I 19 = I 19 := rfl
theorem kru19 {I : St} {k : Nat} {x : Int32} : kr (az_up I 19 k x) = az_up (kr I) 19 k x := kr_up (kq_of kw19)
theorem krs19 {I : St} {f : Nat → Int32} : kr (az_set I 19 f) = az_set (kr I) 19 f := kr_set kw19
theorem kw20 : kw 20 = true := by decide
theorem kr20 {I : St} : kr I 20 = I 20 := rfl
theorem kru20 {I : St} {k : Nat} {x : Int32} : kr (az_up I 20 k x) = az_up (kr I) 20 k x := kr_up (kq_of kw20)
theorem krs20 {I : St} {f : Nat → Int32} : kr (az_set I 20 f) = az_set (kr I) 20 f := kr_set kw20
theorem kw21 : kw 21 = true := by decide
theorem kr21 {I : St} : kr I 21 = I 21 := rfl
theorem kru21 {I : St} {k : Nat} {x : Int32} : kr (az_up I 21 k x) = az_up (kr I) 21 k x := kr_up (kq_of kw21)
theorem krs21 {I : St} {f : Nat → Int32} : kr (az_set I 21 f) = az_set (kr I) 21 f := kr_set kw21
theorem kw22 : kw 22 = true := by decide
theorem kr22 {I : St} : kr I 22 = I 22 := rfl
theorem kru22 {I : St} {k : Nat} {x : Int32} : kr (az_up I 22 k x) = az_up (kr I) 22 k x := kr_up (kq_of kw22)
theorem krs22 {I : St} {f : Nat → Int32} : kr (az_set I 22 f) = az_set (kr I) 22 f := kr_set kw22
theorem kw23 : kw 23 = true := by decide
theorem kr23 {I : St} : kr I 23 = I 23 := rfl
theorem kru23 {I : St} {k : Nat} {x : Int32} : kr (az_up I 23 k x) = az_up (kr I) 23 k x := kr_up (kq_of kw23)
theorem krs23 {I : St} {f : Nat → Int32} : kr (az_set I 23 f) = az_set (kr I) 23 f := kr_set kw23
theorem kw24 : kw 24 = true := by decide
theorem kr24 {I : St} : kr I 24 = I 24 := rfl
theorem kru24 {I : St} {k : Nat} {x : Int32} : kr (az_up I 24 k x) = az_up (kr I) 24 k x := kr_up (kq_of kw24)
theorem krs24 {I : St} {f : Nat → Int32} : kr (az_set I 24 f) = az_set (kr I) 24 f := kr_set kw24
theorem kw25 : kw 25 = true := by decide
theorem kr25 {I : St} : kr I 25 = I 25 := rfl
theorem kru25 {I : St} {k : Nat} {x : Int32} : kr (az_up I 25 k x) = az_up (kr I) 25 k x := kr_up (kq_of kw25)
theorem krs25 {I : St} {f : Nat → Int32} : kr (az_set I 25 f) = az_set (kr I) 25 f := kr_set kw25
theorem kw26 : kw 26 = true := by decide
theorem kr26 {I : St} : kr I 26 = I 26 := rfl
theorem kru26 {I : St} {k : Nat} {x : Int32} : kr (az_up I 26 k x) = az_up (kr I) 26 k x := kr_up (kq_of kw26)
theorem krs26 {I : St} {f : Nat → Int32} : kr (az_set I 26 f) = az_set (kr I) 26 f := kr_set kw26
theorem kw27 : kw 27 = true := by decide
theorem kr27 {I : St} : kr I 27 = I 27 := rfl
theorem kru27 {I : St} {k : Nat} {x : Int32} : kr (az_up I 27 k x) = az_up (kr I) 27 k x := kr_up (kq_of kw27)
theorem krs27 {I : St} {f : Nat → Int32} : kr (az_set I 27 f) = az_set (kr I) 27 f := kr_set kw27
theorem kw29 : kw 29 = true := by decide
theorem kr29 {I : St} : kr I 29 = I 29 := rfl
theorem kru29 {I : St} {k : Nat} {x : Int32} : kr (az_up I 29 k x) = az_up (kr I) 29 k x := kr_up (kq_of kw29)
theorem krs29 {I : St} {f : Nat → Int32} : kr (az_set I 29 f) = az_set (kr I) 29 f := kr_set kw29
theorem kw30 : kw 30 = true := by decide
theorem kr30 {I : St} : kr I 30 = I 30 := rfl
theorem kru30 {I : St} {k : Nat} {x : Int32} : kr (az_up I 30 k x) = az_up (kr I) 30 k x := kr_up (kq_of kw30)
theorem krs30 {I : St} {f : Nat → Int32} : kr (az_set I 30 f) = az_set (kr I) 30 f := kr_set kw30
theorem kw31 : kw 31 = true := by decide
theorem kr31 {I : St} : kr I 31 = I 31 := rfl
theorem kru31 {I : St} {k : Nat} {x : Int32} : kr (az_up I 31 k x) = az_up (kr I) 31 k x := kr_up (kq_of kw31)
theorem krs31 {I : St} {f : Nat → Int32} : kr (az_set I 31 f) = az_set (kr I) 31 f := kr_set kw31
theorem kw32 : kw 32 = true := by decide
theorem kr32 {I : St} : kr I 32 = I 32 := rfl
theorem kru32 {I : St} {k : Nat} {x : Int32} : kr (az_up I 32 k x) = az_up (kr I) 32 k x := kr_up (kq_of kw32)
theorem krs32 {I : St} {f : Nat → Int32} : kr (az_set I 32 f) = az_set (kr I) 32 f := kr_set kw32
theorem kw33 : kw 33 = true := by decide
theorem kr33 {I : St} : kr I 33 = I 33 := rfl
theorem kru33 {I : St} {k : Nat} {x : Int32} : kr (az_up I 33 k x) = az_up (kr I) 33 k x := kr_up (kq_of kw33)
theorem krs33 {I : St} {f : Nat → Int32} : kr (az_set I 33 f) = az_set (kr I) 33 f := kr_set kw33
theorem kw37 : kw 37 = true := by decide
theorem kr37 {I : St} : kr I 37 = I 37 := rfl
theorem kru37 {I : St} {k : Nat} {x : Int32} : kr (az_up I 37 k x) = az_up (kr I) 37 k x := kr_up (kq_of kw37)
theorem krs37 {I : St} {f : Nat → Int32} : kr (az_set I 37 f) = az_set (kr I) 37 f := kr_set kw37
theorem kw38 : kw 38 = true := by decide
theorem kr38 {I : St} : kr I 38 = I 38 := rfl
theorem kru38 {I : St} {k : Nat} {x : Int32} : kr (az_up I 38 k x) = az_up (kr I) 38 k x := kr_up (kq_of kw38)
theorem krs38 {I : St} {f : Nat → Int32} : kr (az_set I 38 f) = az_set (kr I) 38 f := kr_set kw38
theorem kw39 : kw 39 = true := by decide
theorem kr39 {I : St} : kr I 39 = I 39 := rfl
theorem kru39 {I : St} {k : Nat} {x : Int32} : kr (az_up I 39 k x) = az_up (kr I) 39 k x := kr_up (kq_of kw39)
theorem krs39 {I : St} {f : Nat → Int32} : kr (az_set I 39 f) = az_set (kr I) 39 f := kr_set kw39
theorem kw40 : kw 40 = true := by decide
theorem kr40 {I : St} : kr I 40 = I 40 := rfl
theorem kru40 {I : St} {k : Nat} {x : Int32} : kr (az_up I 40 k x) = az_up (kr I) 40 k x := kr_up (kq_of kw40)
theorem krs40 {I : St} {f : Nat → Int32} : kr (az_set I 40 f) = az_set (kr I) 40 f := kr_set kw40
theorem kw107 : kw 107 = true := by decide
theorem kr107 {I : St} : kr I 107 = I 107 := rfl
theorem kru107 {I : St} {k : Nat} {x : Int32} : kr (az_up I 107 k x) = az_up (kr I) 107 k x := kr_up (kq_of kw107)
theorem krs107 {I : St} {f : Nat → Int32} : kr (az_set I 107 f) = az_set (kr I) 107 f := kr_set kw107
theorem kw108 : kw 108 = true := by decide
theorem kr108 {I : St} : kr I 108 = I 108 := rfl
theorem kru108 {I : St} {k : Nat} {x : Int32} : kr (az_up I 108 k x) = az_up (kr I) 108 k x := kr_up (kq_of kw108)
theorem krs108 {I : St} {f : Nat → Int32} : kr (az_set I 108 f) = az_set (kr I) 108 f := kr_set kw108
theorem kw109 : kw 109 = true := by decide
theorem kr109 {I : St} : kr I 109 = I 109 := rfl
theorem kru109 {I : St} {k : Nat} {x : Int32} : kr (az_up I 109 k x) = az_up (kr I) 109 k x := kr_up (kq_of kw109)
theorem krs109 {I : St} {f : Nat → Int32} : kr (az_set I 109 f) = az_set (kr I) 109 f := kr_set kw109
theorem kw110 : kw 110 = true := by decide
theorem kr110 {I : St} : kr I 110 = I 110 := rfl
theorem kru110 {I : St} {k : Nat} {x : Int32} : kr (az_up I 110 k x) = az_up (kr I) 110 k x := kr_up (kq_of kw110)
theorem krs110 {I : St} {f : Nat → Int32} : kr (az_set I 110 f) = az_set (kr I) 110 f := kr_set kw110
theorem kg0 {I : St} : kr I 0 6 = I 0 6 := rfl
theorem krv0 {I : St} {x : Int32} : kr (az_up I 0 6 x) = az_up (kr I) 0 6 x := kr_up (by decide)
theorem kg18 {I : St} : kr I 18 9 = I 18 9 := rfl
theorem krv18 {I : St} {x : Int32} : kr (az_up I 18 9 x) = az_up (kr I) 18 9 x := kr_up (by decide)
theorem kg28 {I : St} : kr I 28 7 = I 28 7 := rfl
theorem krv28 {I : St} {x : Int32} : kr (az_up I 28 7 x) = az_up (kr I) 28 7 x := kr_up (by decide)
theorem kg36 {I : St} : kr I 36 7 = I 36 7 := rfl
theorem krv36 {I : St} {x : Int32} : kr (az_up I 36 7 x) = az_up (kr I) 36 7 x := kr_up (by decide)
theorem kg106 {I : St} : kr I 106 5 = I 106 5 := rfl
theorem krv106 {I : St} {x : Int32} : kr (az_up I 106 5 x) = az_up (kr I) 106 5 x := kr_up (by decide)
theorem kq15 {j : Nat} (h : j < 4) : kq 15 j = true := by
  show (false || ((true && Nat.blt j 4) || _)) = true
  rw [show Nat.blt j 4 = true by unfold Nat.blt; exact Nat.ble_eq.mpr (by omega)]
  rfl
theorem kr15 {I : St} {j : Nat} (h : j < 4) : kr I 15 j = I 15 j := kr_f (kq15 h)
theorem kq16 {j : Nat} (h : j < 4) : kq 16 j = true := by
  show (false || ((true && Nat.blt j 4) || _)) = true
  rw [show Nat.blt j 4 = true by unfold Nat.blt; exact Nat.ble_eq.mpr (by omega)]
  rfl
theorem kr16 {I : St} {j : Nat} (h : j < 4) : kr I 16 j = I 16 j := kr_f (kq16 h)
theorem kq17 {j : Nat} (h : j < 4) : kq 17 j = true := by
  show (false || ((true && Nat.blt j 4) || _)) = true
  rw [show Nat.blt j 4 = true by unfold Nat.blt; exact Nat.ble_eq.mpr (by omega)]
  rfl
theorem kr17 {I : St} {j : Nat} (h : j < 4) : kr I 17 j = I 17 j := kr_f (kq17 h)
theorem krz34 {I : St} {f : Nat → Int32} : kr (az_set I 34 f) = kr I := kr_set0 fun _ => rfl
theorem krz35 {I : St} {f : Nat → Int32} : kr (az_set I 35 f) = kr I := kr_set0 fun _ => rfl
theorem krz36_5 {I : St} {x : Int32} : kr (az_up I 36 5 x) = kr I := kr_up0 (by decide)
theorem krz36_6 {I : St} {x : Int32} : kr (az_up I 36 6 x) = kr I := kr_up0 (by decide)
def az_cnt (mo nc nl ng np : Nat) (I : St) : Prop := (I 0 6 = nI mo ∧ mo ≤ 240) ∧ (I 18 9 = nI nc ∧ nc ≤ 12) ∧ (I 28 7 = nI nl ∧ nl ≤ 60) ∧ (I 36 7 = nI ng ∧ ng ≤ 6) ∧ (I 106 5 = nI np ∧ np ≤ 40)
def az_vpy (nc nl np : Nat) (I : St) : Prop := ∀ p, p < np → az_in (I 107 p) nc = true ∧ ∃ n : Nat, n ≤ 1000 ∧ I 109 p = nI n ∧ (∀ j, j < 60 → 0 ≤ (I (112 + p) j).toInt ∧ (nl ≤ j → I (112 + p) j = 0)) ∧ (n : Int) = fb_si (fun j => (I (112 + p) j).toInt) 60
/-- what a state keeps to, as far as the calls' runs ask it -/
def PC (I : St) (mo nc nl ng np t : Nat) : Prop := az_cnt mo nc nl ng np I ∧ az_ebar I ∧ az_vld I ∧ az_vch I ∧ az_vcd nc I ∧ az_vlt nc nl t I ∧ az_vcp ng I ∧ az_vpy nc nl np I
def bad : Int32 := -2100000000
theorem az_in_w {x : Int32} {m n : Nat} (h : az_in x m = true) (hn : m ≤ n) : az_in x n = true := by
  rw [az_int] at h ⊢
  omega
theorem az_in_k {x : Int32} {n : Nat} (h : az_in x n = true) : x.toNatClampNeg < n ∧ x = nI x.toNatClampNeg := by
  have h1 := az_int.mp h
  have e : (x.toNatClampNeg : Int) = x.toInt := by
    show ((x.toInt.toNat : Nat) : Int) = x.toInt
    omega
  refine ⟨by omega, ?_⟩
  apply Int32.toInt_inj.mp
  rw [nI_toInt (by have := x.toInt_lt; omega), e]
theorem az_w5 {w : Int32} (h : 0 ≤ w ∧ w ≤ 4) : w = 0 ∨ w = 1 ∨ w = 2 ∨ w = 3 ∨ w = 4 := by
  have h1 := Int32.le_iff_toInt_le.mp h.1
  have h2 := Int32.le_iff_toInt_le.mp h.2
  have e0 : (0 : Int32).toInt = 0 := rfl
  have e4 : (4 : Int32).toInt = 4 := rfl
  rw [e0] at h1
  rw [e4] at h2
  simp only [← Int32.toInt_inj]
  have : (1 : Int32).toInt = 1 := rfl
  have : (2 : Int32).toInt = 2 := rfl
  have : (3 : Int32).toInt = 3 := rfl
  omega
theorem az_lc {x : Int64} : lg_cmp x x = 0 := by simp [lg_cmp]
theorem upd_same {f : Nat → Int32} {k : Nat} : upd f k (f k) = f := by
  funext j
  rw [upde]
  split
  · rename_i h; rw [h]
  · rfl
theorem vcd_up {I I' : Nat → Nat → Int32} {nc k : Nat} {x y : Int32} (h : az_vcd nc I) (hk : k < nc) (hx : az_in x 3 = true) (hy : az_in y 3 = true) (e19 : I' 19 = I 19) (e20 : I' 20 = I 20) (e21 : I' 21 = I 21) (e22 : I' 22 = I 22) (e24 : I' 24 = upd (I 24) k x) (e26 : I' 26 = upd (I 26) k y) (e27 : ∀ i, nc ≤ i → I' 27 i = I 27 i) : az_vcd nc I' := by
  refine ⟨fun i hi => ?_, fun i hi => ?_⟩
  · obtain ⟨a1, a2, a3, a4, a5⟩ := h.1 i hi
    rw [e19, e20, e21, e22, e24, e26, upde, upde]
    refine ⟨a1, a2, a3, ?_, ?_⟩
    · split
      · exact hx
      · exact a4
    · split
      · exact hy
      · exact a5
  · obtain ⟨a1, a2, a3⟩ := h.2 i hi
    rw [e24, e26, e27 i hi, upde, upde, if_neg (by omega), if_neg (by omega)]
    exact ⟨a1, a2, a3⟩
theorem az_q0_1 : ((0 : Int32) = 1) = False := by decide
theorem az_q0_2 : ((0 : Int32) = 2) = False := by decide
theorem az_q0_3 : ((0 : Int32) = 3) = False := by decide
theorem az_q0_4 : ((0 : Int32) = 4) = False := by decide
theorem az_q0_5 : ((0 : Int32) = 5) = False := by decide
theorem az_q0_6 : ((0 : Int32) = 6) = False := by decide
theorem az_q0_7 : ((0 : Int32) = 7) = False := by decide
theorem az_q0_8 : ((0 : Int32) = 8) = False := by decide
theorem az_q1_0 : ((1 : Int32) = 0) = False := by decide
theorem az_q1_2 : ((1 : Int32) = 2) = False := by decide
theorem az_q1_3 : ((1 : Int32) = 3) = False := by decide
theorem az_q1_4 : ((1 : Int32) = 4) = False := by decide
theorem az_q1_5 : ((1 : Int32) = 5) = False := by decide
theorem az_q1_6 : ((1 : Int32) = 6) = False := by decide
theorem az_q1_7 : ((1 : Int32) = 7) = False := by decide
theorem az_q1_8 : ((1 : Int32) = 8) = False := by decide
theorem az_q2_0 : ((2 : Int32) = 0) = False := by decide
theorem az_q2_1 : ((2 : Int32) = 1) = False := by decide
theorem az_q2_3 : ((2 : Int32) = 3) = False := by decide
theorem az_q2_4 : ((2 : Int32) = 4) = False := by decide
theorem az_q2_5 : ((2 : Int32) = 5) = False := by decide
theorem az_q2_6 : ((2 : Int32) = 6) = False := by decide
theorem az_q2_7 : ((2 : Int32) = 7) = False := by decide
theorem az_q2_8 : ((2 : Int32) = 8) = False := by decide
theorem az_q3_0 : ((3 : Int32) = 0) = False := by decide
theorem az_q3_1 : ((3 : Int32) = 1) = False := by decide
theorem az_q3_2 : ((3 : Int32) = 2) = False := by decide
theorem az_q3_4 : ((3 : Int32) = 4) = False := by decide
theorem az_q3_5 : ((3 : Int32) = 5) = False := by decide
theorem az_q3_6 : ((3 : Int32) = 6) = False := by decide
theorem az_q3_7 : ((3 : Int32) = 7) = False := by decide
theorem az_q3_8 : ((3 : Int32) = 8) = False := by decide
theorem az_q4_0 : ((4 : Int32) = 0) = False := by decide
theorem az_q4_1 : ((4 : Int32) = 1) = False := by decide
theorem az_q4_2 : ((4 : Int32) = 2) = False := by decide
theorem az_q4_3 : ((4 : Int32) = 3) = False := by decide
theorem az_q4_5 : ((4 : Int32) = 5) = False := by decide
theorem az_q4_6 : ((4 : Int32) = 6) = False := by decide
theorem az_q4_7 : ((4 : Int32) = 7) = False := by decide
theorem az_q4_8 : ((4 : Int32) = 8) = False := by decide
theorem az_q5_0 : ((5 : Int32) = 0) = False := by decide
theorem az_q5_1 : ((5 : Int32) = 1) = False := by decide
theorem az_q5_2 : ((5 : Int32) = 2) = False := by decide
theorem az_q5_3 : ((5 : Int32) = 3) = False := by decide
theorem az_q5_4 : ((5 : Int32) = 4) = False := by decide
theorem az_q5_6 : ((5 : Int32) = 6) = False := by decide
theorem az_q5_7 : ((5 : Int32) = 7) = False := by decide
theorem az_q5_8 : ((5 : Int32) = 8) = False := by decide
theorem az_q6_0 : ((6 : Int32) = 0) = False := by decide
theorem az_q6_1 : ((6 : Int32) = 1) = False := by decide
theorem az_q6_2 : ((6 : Int32) = 2) = False := by decide
theorem az_q6_3 : ((6 : Int32) = 3) = False := by decide
theorem az_q6_4 : ((6 : Int32) = 4) = False := by decide
theorem az_q6_5 : ((6 : Int32) = 5) = False := by decide
theorem az_q6_7 : ((6 : Int32) = 7) = False := by decide
theorem az_q6_8 : ((6 : Int32) = 8) = False := by decide
theorem az_q7_0 : ((7 : Int32) = 0) = False := by decide
theorem az_q7_1 : ((7 : Int32) = 1) = False := by decide
theorem az_q7_2 : ((7 : Int32) = 2) = False := by decide
theorem az_q7_3 : ((7 : Int32) = 3) = False := by decide
theorem az_q7_4 : ((7 : Int32) = 4) = False := by decide
theorem az_q7_5 : ((7 : Int32) = 5) = False := by decide
theorem az_q7_6 : ((7 : Int32) = 6) = False := by decide
theorem az_q7_8 : ((7 : Int32) = 8) = False := by decide
theorem az_q8_0 : ((8 : Int32) = 0) = False := by decide
theorem az_q8_1 : ((8 : Int32) = 1) = False := by decide
theorem az_q8_2 : ((8 : Int32) = 2) = False := by decide
theorem az_q8_3 : ((8 : Int32) = 3) = False := by decide
theorem az_q8_4 : ((8 : Int32) = 4) = False := by decide
theorem az_q8_5 : ((8 : Int32) = 5) = False := by decide
theorem az_q8_6 : ((8 : Int32) = 6) = False := by decide
theorem az_q8_7 : ((8 : Int32) = 7) = False := by decide
theorem az_z10 : ((10 : Int32) = 0) = False := by decide
theorem az_z60 : ((60 : Int32) = 0) = False := by decide
theorem az_z100 : ((100 : Int32) = 0) = False := by decide
theorem az_z1000 : ((1000 : Int32) = 0) = False := by decide
theorem az_z1001 : ((1001 : Int32) = 0) = False := by decide
theorem az_z10000 : ((10000 : Int32) = 0) = False := by decide
theorem az_tsfn {l : List Nat} {dt n : Nat} (h : n < l.length) (h2 : n < 2 ^ 31) : az_tsf l dt (nI n) = l.getD n dt := by
  unfold az_tsf
  rw [nI_toInt (by omega), if_neg (by omega)]
  rfl
theorem az_tsfd {l : List Nat} {dt n : Nat} (h : l.length ≤ n) (h2 : n < 2 ^ 31) : az_tsf l dt (nI n) = dt := by
  unfold az_tsf
  rw [nI_toInt (by omega), if_pos (by omega)]
section
variable {a a1 a2 a3 a4 a5 a6 a7 a8 dt : Nat} {l : List Nat}
theorem tsf0 : az_tsf (a :: l) dt 0 = a := az_tsfn (n := 0) (by simp) (by omega)
theorem tsf1 : az_tsf (a :: a1 :: l) dt 1 = a1 := az_tsfn (n := 1) (by simp) (by omega)
theorem tsf2 : az_tsf (a :: a1 :: a2 :: l) dt 2 = a2 := az_tsfn (n := 2) (by simp) (by omega)
theorem tsf3 : az_tsf (a :: a1 :: a2 :: a3 :: l) dt 3 = a3 := az_tsfn (n := 3) (by simp) (by omega)
theorem tsf4 : az_tsf (a :: a1 :: a2 :: a3 :: a4 :: l) dt 4 = a4 := az_tsfn (n := 4) (by simp) (by omega)
theorem tsf5 : az_tsf (a :: a1 :: a2 :: a3 :: a4 :: a5 :: l) dt 5 = a5 := az_tsfn (n := 5) (by simp) (by omega)
theorem tsf6 : az_tsf (a :: a1 :: a2 :: a3 :: a4 :: a5 :: a6 :: l) dt 6 = a6 := az_tsfn (n := 6) (by simp) (by omega)
theorem tsf7 : az_tsf (a :: a1 :: a2 :: a3 :: a4 :: a5 :: a6 :: a7 :: l) dt 7 = a7 := az_tsfn (n := 7) (by simp) (by omega)
theorem tsf4d : az_tsf [a, a1, a2, a3] dt 4 = dt := az_tsfd (n := 4) (by simp) (by omega)
theorem tsf7d : az_tsf [a, a1, a2, a3, a4, a5, a6] dt 7 = dt := az_tsfd (n := 7) (by simp) (by omega)
theorem tsf8d : az_tsf [a, a1, a2, a3, a4, a5, a6, a7] dt 8 = dt := az_tsfd (n := 8) (by simp) (by omega)
end
theorem az_nv1 : az_nv (-1) = 100000 := by decide
theorem az_nvn {e : Nat} (h : e ≤ 300) : az_nv (nI e) = nI e := by
  unfold az_nv
  rw [if_neg]
  intro h2
  have := congrArg Int32.toInt h2
  rw [nI_toInt (by omega), show (-1 : Int32).toInt = -1 by decide] at this
  omega
theorem bz_n1 {e : Nat} (h : e ≤ 300) : (nI e = 100000) = False := by
  apply eq_false
  intro h2
  have := congrArg Int32.toInt h2
  rw [nI_toInt (by omega), show (100000 : Int32).toInt = 100000 by decide] at this
  omega
theorem bz_n2 {e : Nat} (h : e ≤ 300) : (nI e = -1) = False := by
  apply eq_false
  intro h2
  have := congrArg Int32.toInt h2
  rw [nI_toInt (by omega), show (-1 : Int32).toInt = -1 by decide] at this
  omega
theorem bz_m3 {x : Int32} (h : az_in x 3 = true) : x = 0 ∨ x = 1 ∨ x = 2 := by
  have h1 := az_int.mp h
  simp only [← Int32.toInt_inj]
  have : (0 : Int32).toInt = 0 := rfl
  have : (1 : Int32).toInt = 1 := rfl
  have : (2 : Int32).toInt = 2 := rfl
  omega
theorem bz_add (a b : Nat) : nI a + nI b = nI (a + b) := (Int32.ofNat_add a b).symm
theorem bz_mul (a b : Nat) : nI a * nI b = nI (a * b) := (Int32.ofNat_mul a b).symm
theorem bz_gix {x y : Int32} {m n : Nat} (hx : az_in x m = true) (hy : az_in y n = true) (hm : m ≤ 60) (hn : n ≤ 60) : (nI n * x + y).toNatClampNeg = n * x.toNatClampNeg + y.toNatClampNeg ∧ az_in (nI n * x + y) (m * n) = true := by
  obtain ⟨h1, h2⟩ := az_in_k hx
  obtain ⟨h3, h4⟩ := az_in_k hy
  generalize x.toNatClampNeg = a at *
  generalize y.toNatClampNeg = b at *
  subst h2 h4
  have hb : n * a + b < m * n := by
    have : n * (a + 1) ≤ n * m := Nat.mul_le_mul_left n (by omega)
    rw [Nat.mul_comm m n]
    rw [Nat.mul_add] at this
    omega
  have hmn : m * n ≤ 60 * 60 := Nat.mul_le_mul hm hn
  have e : nI n * nI a + nI b = nI (n * a + b) := by
    rw [bz_mul, bz_add]
  rw [e]
  refine ⟨nI_clamp (by omega), ?_⟩
  rw [az_in_nI (by omega)]
  simp [hb]

