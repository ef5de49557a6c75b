/-! plain facts to paste, each family by itself; over the kit's nI, lN and upd -/
/-! ===== drawers: more things than places ===== -/
theorem fb_holes : ∀ (m n : Nat) (f : Nat → Nat), (∀ i, i < n → f i < m) → (∀ i j, i < j → j < n → f i ≠ f j) → n ≤ m := by
  intro m
  induction m with
  | zero =>
    intro n f h1 _
    rcases Nat.eq_zero_or_pos n with h | h
    · omega
    · exact absurd (h1 0 h) (Nat.not_lt_zero _)
  | succ m ih =>
    intro n f h1 h2
    by_cases hx : ∃ i, i < n ∧ f i = m
    · obtain ⟨a, ha, hfa⟩ := hx
      have hg := ih (n - 1) (fun i => if i < a then f i else f (i + 1)) (by
        intro i hi
        by_cases q : i < a
        · simp only [if_pos q]
          have b1 := h1 i (by omega)
          have b2 := h2 i a q ha
          omega
        · simp only [if_neg q]
          have b1 := h1 (i + 1) (by omega)
          have b2 := h2 a (i + 1) (by omega) (by omega)
          omega) (by
        intro i j hij hj
        by_cases q : i < a
        · by_cases r : j < a
          · simp only [if_pos q, if_pos r]
            exact h2 i j hij (by omega)
          · simp only [if_pos q, if_neg r]
            exact h2 i (j + 1) (by omega) (by omega)
        · have r : ¬ j < a := by omega
          simp only [if_neg q, if_neg r]
          exact h2 (i + 1) (j + 1) (by omega) (by omega))
      omega
    · have hg := ih n f (fun i hi => by
        have b1 := h1 i hi
        have b2 : f i ≠ m := fun e => hx ⟨i, hi, e⟩
        omega) h2
      omega
/-- two of them in one place -/
theorem fb_twice {m n : Nat} {f : Nat → Nat} (h : ∀ i, i < n → f i < m) (hm : m < n) : ∃ i j, i < j ∧ j < n ∧ f i = f j := by
  refine Classical.byContradiction fun hx => ?_
  have := fb_holes m n f h (fun i j hij hj e => hx ⟨i, j, hij, hj, e⟩)
  omega
/-- as many as places, none twice: each place is taken -/
theorem fb_onto {n : Nat} {f : Nat → Nat} (h : ∀ i, i < n → f i < n) (h2 : ∀ i j, i < j → j < n → f i ≠ f j) {y : Nat} (hy : y < n) : ∃ i, i < n ∧ f i = y := by
  refine Classical.byContradiction fun hx => ?_
  have hne : ∀ i, i < n → f i ≠ y := fun i hi e => hx ⟨i, hi, e⟩
  have := fb_holes (n - 1) n (fun i => if f i < y then f i else f i - 1) (by
    intro i hi
    have b1 := h i hi
    have b2 := hne i hi
    by_cases q : f i < y
    · simp only [if_pos q]; omega
    · simp only [if_neg q]; omega) (by
    intro i j hij hj
    have b1 := hne i (by omega)
    have b2 := hne j hj
    have b3 := h2 i j hij hj
    by_cases q : f i < y
    · by_cases r : f j < y
      · simp only [if_pos q, if_pos r]; exact b3
      · simp only [if_pos q, if_neg r]; omega
    · by_cases r : f j < y
      · simp only [if_neg q, if_pos r]; omega
      · simp only [if_neg q, if_neg r]; omega)
  omega
/-! ===== how many places have a property ===== -/
def fb_ct (p : Nat → Bool) : Nat → Nat
  | 0 => 0
  | n + 1 => fb_ct p n + (if p n then 1 else 0)
theorem fb_ct_succ (p : Nat → Bool) (n : Nat) : fb_ct p (n + 1) = fb_ct p n + (if p n then 1 else 0) := rfl
theorem fb_ct_le (p : Nat → Bool) : ∀ n, fb_ct p n ≤ n
  | 0 => Nat.le_refl _
  | n + 1 => by
    have h := fb_ct_le p n
    rw [fb_ct_succ]
    split <;> omega
theorem fb_ct_step (p : Nat → Bool) (m : Nat) : ∀ n, fb_ct p m ≤ fb_ct p (m + n)
  | 0 => Nat.le_refl _
  | n + 1 => by
    have h := fb_ct_step p m n
    show fb_ct p m ≤ fb_ct p (m + n + 1)
    rw [fb_ct_succ]
    omega
theorem fb_ct_mono (p : Nat → Bool) {m n : Nat} (h : m ≤ n) : fb_ct p m ≤ fb_ct p n := by
  have := fb_ct_step p m (n - m)
  rwa [Nat.add_sub_cancel' h] at this
theorem fb_ct_cong {p q : Nat → Bool} : ∀ {n : Nat}, (∀ k, k < n → p k = q k) → fb_ct p n = fb_ct q n
  | 0, _ => rfl
  | n + 1, h => by
    rw [fb_ct_succ, fb_ct_succ, fb_ct_cong (fun k hk => h k (by omega)), h n (by omega)]
/-- one place changed -/
theorem fb_ct_out (p : Nat → Bool) (b : Bool) {i n : Nat} (h : n ≤ i) : fb_ct (fun k => if k = i then b else p k) n = fb_ct p n :=
  fb_ct_cong fun k hk => if_neg (by omega)
theorem fb_ct_upd (p : Nat → Bool) (b : Bool) {i : Nat} : ∀ {n : Nat}, i < n → fb_ct (fun k => if k = i then b else p k) n + (if p i then 1 else 0) = fb_ct p n + (if b then 1 else 0)
  | 0, h => absurd h (Nat.not_lt_zero i)
  | n + 1, h => by
    rw [fb_ct_succ, fb_ct_succ]
    rcases Nat.lt_or_ge i n with q | q
    · have := fb_ct_upd p b q
      have e : (if n = i then b else p n) = p n := if_neg (by omega)
      rw [e]
      omega
    · have e : i = n := by omega
      subst e
      rw [fb_ct_out p b (Nat.le_refl _)]
      simp only [if_true]
      omega
theorem fb_ct_sub {p q : Nat → Bool} : ∀ {n : Nat}, (∀ k, k < n → p k = true → q k = true) → fb_ct p n ≤ fb_ct q n
  | 0, _ => Nat.le_refl _
  | n + 1, h => by
    have h1 := fb_ct_sub (n := n) (p := p) (q := q) (fun k hk => h k (by omega))
    have h2 := h n (by omega)
    rw [fb_ct_succ, fb_ct_succ]
    cases hp : p n <;> cases hq : q n <;> simp_all <;> omega
theorem fb_ct_or {p q : Nat → Bool} : ∀ {n : Nat}, (∀ k, k < n → ¬ (p k = true ∧ q k = true)) → fb_ct (fun k => p k || q k) n = fb_ct p n + fb_ct q n
  | 0, _ => rfl
  | n + 1, h => by
    have h1 := fb_ct_or (n := n) (p := p) (q := q) (fun k hk => h k (by omega))
    have h2 := h n (by omega)
    rw [fb_ct_succ, fb_ct_succ, fb_ct_succ, h1]
    cases hp : p n <;> cases hq : q n <;> simp_all <;> omega
theorem fb_ct_not (p : Nat → Bool) : ∀ n, fb_ct p n + fb_ct (fun k => !p k) n = n
  | 0 => rfl
  | n + 1 => by
    have h := fb_ct_not p n
    rw [fb_ct_succ, fb_ct_succ]
    cases p n <;> simp <;> omega
theorem fb_ct_split (p : Nat → Bool) (m : Nat) : ∀ n, fb_ct p (m + n) = fb_ct p m + fb_ct (fun k => p (m + k)) n
  | 0 => rfl
  | n + 1 => by
    have h := fb_ct_split p m n
    show fb_ct p (m + n + 1) = _
    rw [fb_ct_succ, fb_ct_succ, h, Nat.add_assoc]
theorem fb_ct_zero {p : Nat → Bool} : ∀ {n : Nat}, fb_ct p n = 0 ↔ ∀ k, k < n → p k = false
  | 0 => ⟨fun _ k hk => absurd hk (Nat.not_lt_zero k), fun _ => rfl⟩
  | n + 1 => by
    have h := fb_ct_zero (p := p) (n := n)
    rw [fb_ct_succ]
    constructor
    · intro e k hk
      have e1 : fb_ct p n = 0 := by omega
      rcases Nat.lt_or_ge k n with q | q
      · exact h.mp e1 k q
      · have ek : k = n := by omega
        subst ek
        cases hp : p k
        · rfl
        · simp [hp] at e
    · intro a
      rw [h.mpr (fun k hk => a k (by omega)), a n (by omega)]
      rfl
theorem fb_ct_pos {p : Nat → Bool} {n : Nat} : 0 < fb_ct p n ↔ ∃ k, k < n ∧ p k = true := by
  constructor
  · intro h
    refine Classical.byContradiction fun hx => ?_
    have := fb_ct_zero.mpr (fun k hk => by
      cases hp : p k
      · rfl
      · exact absurd ⟨k, hk, hp⟩ hx : ∀ k, k < n → p k = false)
    omega
  · rintro ⟨k, hk, hp⟩
    rcases Nat.eq_zero_or_pos (fb_ct p n) with e | e
    · have := fb_ct_zero.mp e k hk
      rw [this] at hp
      cases hp
    · exact e
theorem fb_ct_all {p : Nat → Bool} {n : Nat} : fb_ct p n = n ↔ ∀ k, k < n → p k = true := by
  have h := fb_ct_not p n
  constructor
  · intro e k hk
    have z : fb_ct (fun k => !p k) n = 0 := by omega
    have := fb_ct_zero.mp z k hk
    cases hp : p k
    · simp [hp] at this
    · rfl
  · intro a
    have z : fb_ct (fun k => !p k) n = 0 := fb_ct_zero.mpr (fun k hk => by simp [a k hk])
    omega
/-- the k-th place with the property -/
theorem fb_ct_kth {p : Nat → Bool} {k : Nat} : ∀ {n : Nat}, k < fb_ct p n → ∃ i, i < n ∧ p i = true ∧ fb_ct p i = k
  | 0, h => absurd h (Nat.not_lt_zero k)
  | n + 1, h => by
    rcases Nat.lt_or_ge k (fb_ct p n) with q | q
    · obtain ⟨i, h1, h2⟩ := fb_ct_kth q
      exact ⟨i, by omega, h2⟩
    · rw [fb_ct_succ] at h
      cases hp : p n
      · simp [hp] at h; omega
      · simp [hp] at h
        exact ⟨n, by omega, hp, by omega⟩
theorem fb_ct_kth_one {p : Nat → Bool} {i j : Nat} (hi : p i = true) (hj : p j = true) (e : fb_ct p i = fb_ct p j) : i = j := by
  have key : ∀ a b : Nat, a < b → p a = true → fb_ct p a < fb_ct p b := by
    intro a b hab ha
    have h := fb_ct_mono p (show a + 1 ≤ b from hab)
    rw [fb_ct_succ, ha] at h
    simp at h
    omega
  rcases Nat.lt_trichotomy i j with q | q | q
  · have := key i j q hi; omega
  · exact q
  · have := key j i q hj; omega
/-! ===== sums over a range: one place changed, parts, bounds ===== -/
def fb_sm (f : Nat → Nat) : Nat → Nat
  | 0 => 0
  | n + 1 => fb_sm f n + f n
theorem fb_sm_succ (f : Nat → Nat) (n : Nat) : fb_sm f (n + 1) = fb_sm f n + f n := rfl
theorem fb_sm_cong {f g : Nat → Nat} : ∀ {n : Nat}, (∀ k, k < n → f k = g k) → fb_sm f n = fb_sm g n
  | 0, _ => rfl
  | n + 1, h => by rw [fb_sm_succ, fb_sm_succ, fb_sm_cong (fun k hk => h k (by omega)), h n (by omega)]
theorem fb_sm_out (f : Nat → Nat) (v : Nat) {i n : Nat} (h : n ≤ i) : fb_sm (fun k => if k = i then v else f k) n = fb_sm f n :=
  fb_sm_cong fun k hk => if_neg (by omega)
theorem fb_sm_upd (f : Nat → Nat) (v : Nat) {i : Nat} : ∀ {n : Nat}, i < n → fb_sm (fun k => if k = i then v else f k) n + f i = fb_sm f n + v
  | 0, h => absurd h (Nat.not_lt_zero i)
  | n + 1, h => by
    rw [fb_sm_succ, fb_sm_succ]
    rcases Nat.lt_or_ge i n with q | q
    · have := fb_sm_upd f v q
      have e : (if n = i then v else f n) = f n := if_neg (by omega)
      rw [e]
      omega
    · have e : i = n := by omega
      subst e
      rw [fb_sm_out f v (Nat.le_refl _)]
      simp only [if_true]
      omega
theorem fb_sm_add (f g : Nat → Nat) : ∀ n, fb_sm (fun k => f k + g k) n = fb_sm f n + fb_sm g n
  | 0 => rfl
  | n + 1 => by
    have h := fb_sm_add f g n
    rw [fb_sm_succ, fb_sm_succ, fb_sm_succ, h]
    omega
theorem fb_sm_le {f g : Nat → Nat} : ∀ {n : Nat}, (∀ k, k < n → f k ≤ g k) → fb_sm f n ≤ fb_sm g n
  | 0, _ => Nat.le_refl _
  | n + 1, h => by
    have h1 := fb_sm_le (n := n) (f := f) (g := g) (fun k hk => h k (by omega))
    have h2 := h n (by omega)
    rw [fb_sm_succ, fb_sm_succ]
    omega
theorem fb_sm_const (c : Nat) : ∀ n, fb_sm (fun _ => c) n = n * c
  | 0 => by rw [Nat.zero_mul]; rfl
  | n + 1 => by rw [fb_sm_succ, fb_sm_const c n, Nat.succ_mul]
theorem fb_sm_bound {f : Nat → Nat} {c n : Nat} (h : ∀ k, k < n → f k ≤ c) : fb_sm f n ≤ n * c := by
  rw [← fb_sm_const c n]
  exact fb_sm_le h
theorem fb_sm_mono (f : Nat → Nat) (m : Nat) : ∀ n, fb_sm f m ≤ fb_sm f (m + n)
  | 0 => Nat.le_refl _
  | n + 1 => by
    have h := fb_sm_mono f m n
    show fb_sm f m ≤ fb_sm f (m + n + 1)
    rw [fb_sm_succ]
    omega
theorem fb_sm_part (f : Nat → Nat) {i n : Nat} (h : i < n) : fb_sm f i + f i ≤ fb_sm f n := by
  have := fb_sm_mono f (i + 1) (n - (i + 1))
  rw [fb_sm_succ, show i + 1 + (n - (i + 1)) = n by omega] at this
  exact this
theorem fb_sm_split (f : Nat → Nat) (m : Nat) : ∀ n, fb_sm f (m + n) = fb_sm f m + fb_sm (fun k => f (m + k)) n
  | 0 => rfl
  | n + 1 => by
    have h := fb_sm_split f m n
    show fb_sm f (m + n + 1) = _
    rw [fb_sm_succ, fb_sm_succ, h, Nat.add_assoc]
theorem fb_sm_zero {f : Nat → Nat} {n : Nat} (h : fb_sm f n = 0) : ∀ k, k < n → f k = 0 := fun k hk => by
  have := fb_sm_part f hk
  omega
/-- the same over whole numbers -/
def fb_si (f : Nat → Int) : Nat → Int
  | 0 => 0
  | n + 1 => fb_si f n + f n
theorem fb_si_succ (f : Nat → Int) (n : Nat) : fb_si f (n + 1) = fb_si f n + f n := rfl
theorem fb_si_cong {f g : Nat → Int} : ∀ {n : Nat}, (∀ k, k < n → f k = g k) → fb_si f n = fb_si g n
  | 0, _ => rfl
  | n + 1, h => by rw [fb_si_succ, fb_si_succ, fb_si_cong (fun k hk => h k (by omega)), h n (by omega)]
theorem fb_si_out (f : Nat → Int) (v : Int) {i n : Nat} (h : n ≤ i) : fb_si (fun k => if k = i then v else f k) n = fb_si f n :=
  fb_si_cong fun k hk => if_neg (by omega)
theorem fb_si_upd (f : Nat → Int) (v : Int) {i : Nat} : ∀ {n : Nat}, i < n → fb_si (fun k => if k = i then v else f k) n = fb_si f n - f i + v
  | 0, h => absurd h (Nat.not_lt_zero i)
  | n + 1, h => by
    rw [fb_si_succ, fb_si_succ]
    rcases Nat.lt_or_ge i n with q | q
    · have := fb_si_upd f v q
      have e : (if n = i then v else f n) = f n := if_neg (by omega)
      rw [e]
      omega
    · have e : i = n := by omega
      subst e
      rw [fb_si_out f v (Nat.le_refl _)]
      simp only [if_true]
      omega
theorem fb_si_add (f g : Nat → Int) : ∀ n, fb_si (fun k => f k + g k) n = fb_si f n + fb_si g n
  | 0 => rfl
  | n + 1 => by
    have h := fb_si_add f g n
    rw [fb_si_succ, fb_si_succ, fb_si_succ, h]
    omega
theorem fb_si_sub (f g : Nat → Int) : ∀ n, fb_si (fun k => f k - g k) n = fb_si f n - fb_si g n
  | 0 => rfl
  | n + 1 => by
    have h := fb_si_sub f g n
    rw [fb_si_succ, fb_si_succ, fb_si_succ, h]
    omega
theorem fb_si_mul (c : Int) (f : Nat → Int) : ∀ n, fb_si (fun k => c * f k) n = c * fb_si f n
  | 0 => (Int.mul_zero c).symm
  | n + 1 => by
    have h := fb_si_mul c f n
    rw [fb_si_succ, fb_si_succ, h, Int.mul_add]
theorem fb_si_split (f : Nat → Int) (m : Nat) : ∀ n, fb_si f (m + n) = fb_si f m + fb_si (fun k => f (m + k)) n
  | 0 => (Int.add_zero _).symm
  | n + 1 => by
    have h := fb_si_split f m n
    show fb_si f (m + n + 1) = _
    rw [fb_si_succ, fb_si_succ, h, Int.add_assoc]
theorem fb_si_nat (f : Nat → Nat) : ∀ n, fb_si (fun k => (f k : Int)) n = (fb_sm f n : Int)
  | 0 => rfl
  | n + 1 => by
    have h := fb_si_nat f n
    rw [fb_si_succ, fb_sm_succ, h]
    omega
theorem fb_si_bound {f : Nat → Int} {c : Int} (hc : 0 ≤ c) : ∀ {n : Nat}, (∀ k, k < n → -c ≤ f k ∧ f k ≤ c) → -(n * c) ≤ fb_si f n ∧ fb_si f n ≤ n * c
  | 0, _ => by simp [fb_si]
  | n + 1, h => by
    have h1 := fb_si_bound (n := n) (f := f) hc (fun k hk => h k (by omega))
    have h2 := h n (by omega)
    have e : ((n + 1 : Nat) : Int) * c = n * c + c := by rw [Int.natCast_add, Int.add_mul]; simp
    rw [fb_si_succ, e]
    omega
/-! ===== bits of a long that isn't negative ===== -/
theorem fb_andL (a b : Nat) : lN a &&& lN b = lN (a &&& b) := by
  apply Int64.toBitVec_inj.1
  show BitVec.ofNat 64 a &&& BitVec.ofNat 64 b = BitVec.ofNat 64 (a &&& b)
  apply BitVec.eq_of_getLsbD_eq
  intro i hi
  simp [hi]
theorem fb_orL (a b : Nat) : lN a ||| lN b = lN (a ||| b) := by
  apply Int64.toBitVec_inj.1
  show BitVec.ofNat 64 a ||| BitVec.ofNat 64 b = BitVec.ofNat 64 (a ||| b)
  apply BitVec.eq_of_getLsbD_eq
  intro i hi
  simp [hi]
theorem fb_xorL (a b : Nat) : lN a ^^^ lN b = lN (a ^^^ b) := by
  apply Int64.toBitVec_inj.1
  show BitVec.ofNat 64 a ^^^ BitVec.ofNat 64 b = BitVec.ofNat 64 (a ^^^ b)
  apply BitVec.eq_of_getLsbD_eq
  intro i hi
  simp [hi]
theorem fb_xorI (a b : Nat) : nI a ^^^ nI b = nI (a ^^^ b) := by
  apply Int32.toBitVec_inj.1
  show BitVec.ofNat 32 a ^^^ BitVec.ofNat 32 b = BitVec.ofNat 32 (a ^^^ b)
  apply BitVec.eq_of_getLsbD_eq
  intro i hi
  simp [hi]
theorem fb_maskL (n k : Nat) : lN n &&& lN (2 ^ k - 1) = lN (n % 2 ^ k) := by rw [fb_andL, Nat.and_two_pow_sub_one_eq_mod]
theorem fb_or_sumL {a k : Nat} (b : Nat) (h : a < 2 ^ k) : lN (2 ^ k * b) ||| lN a = lN (2 ^ k * b + a) := by rw [fb_orL, Nat.two_pow_add_eq_or_of_lt h]
theorem fb_lN_inj {a b : Nat} (ha : a < 2 ^ 63) (hb : b < 2 ^ 63) : lN a = lN b ↔ a = b := by
  constructor
  · intro h
    have h1 : (BitVec.ofNat 64 a).toNat = (BitVec.ofNat 64 b).toNat := congrArg (fun x : Int64 => x.toBitVec.toNat) h
    rw [BitVec.toNat_ofNat, BitVec.toNat_ofNat, Nat.mod_eq_of_lt (by omega), Nat.mod_eq_of_lt (by omega)] at h1
    exact h1
  · rintro rfl; rfl
theorem fb_bit_nat (n j : Nat) : n &&& 2 ^ j = 0 ↔ n.testBit j = false := by
  constructor
  · intro h
    have h1 : (n &&& 2 ^ j).testBit j = false := by rw [h]; simp
    rw [Nat.testBit_and] at h1
    simpa using h1
  · intro h
    apply Nat.eq_of_testBit_eq
    intro i
    rw [Nat.testBit_and]
    by_cases hi : j = i
    · subst hi; simp [h]
    · first | (simp [Nat.testBit_two_pow, hi]; done) | (simp [Nat.testBit_two_pow_of_ne hi]; done)
/-- one bit of a long -/
theorem fb_bitL {n j : Nat} (hj : j < 63) : lN n &&& lN (2 ^ j) = 0 ↔ n.testBit j = false := by
  have h2 : (2 : Nat) ^ j < 2 ^ 63 := Nat.pow_lt_pow_right (by decide) hj
  have hle : n &&& 2 ^ j ≤ 2 ^ j := Nat.and_le_right
  rw [fb_andL, ← fb_bit_nat, show (0 : Int64) = lN 0 from rfl]
  exact fb_lN_inj (by omega) (by decide)
/-- a bit set, a bit taken off -/
theorem fb_bit_set (n j i : Nat) : (n ||| 2 ^ j).testBit i = (n.testBit i || decide (i = j)) := by
  rw [Nat.testBit_or]
  by_cases h : j = i
  · subst h; simp
  · have h2 : ¬ i = j := fun e => h e.symm
    first | (simp [Nat.testBit_two_pow, h, h2]; done) | (simp [Nat.testBit_two_pow_of_ne h, h2]; done)
theorem fb_bit_flip (n j i : Nat) : (n ^^^ 2 ^ j).testBit i = (n.testBit i ^^ decide (i = j)) := by
  rw [Nat.testBit_xor]
  by_cases h : j = i
  · subst h; simp
  · have h2 : ¬ i = j := fun e => h e.symm
    first | (simp [Nat.testBit_two_pow, h, h2]; done) | (simp [Nat.testBit_two_pow_of_ne h, h2]; done)
/-! ===== a stretch of an array written over by a function ===== -/
def fb_put {α : Type} (f g : Nat → α) (a n : Nat) : Nat → α := fun k => if a ≤ k ∧ k < a + n then g (k - a) else f k
theorem fb_put_0 {α : Type} (f g : Nat → α) (a : Nat) : fb_put f g a 0 = f := funext fun k => if_neg (by omega)
theorem fb_put_in {α : Type} {f g : Nat → α} {a n k : Nat} (h1 : a ≤ k) (h2 : k < a + n) : fb_put f g a n k = g (k - a) := if_pos ⟨h1, h2⟩
theorem fb_put_out {α : Type} {f g : Nat → α} {a n k : Nat} (h : k < a ∨ a + n ≤ k) : fb_put f g a n k = f k := if_neg (by omega)
theorem fb_put_succ (f g : Nat → Int32) (a n : Nat) : upd (fb_put f g a n) (a + n) (g n) = fb_put f g a (n + 1) := by
  funext k
  by_cases h : k = a + n
  · subst h
    simp [upd, fb_put]
  · by_cases h1 : a ≤ k ∧ k < a + n
    · have h2 : a ≤ k ∧ k < a + (n + 1) := by omega
      simp only [upd, fb_put, if_neg h, if_pos h1, if_pos h2]
    · have h2 : ¬ (a ≤ k ∧ k < a + (n + 1)) := by omega
      simp only [upd, fb_put, if_neg h, if_neg h1, if_neg h2]
/-- .. from the far end down -/
theorem fb_put_down (f g : Nat → Int32) {a n m : Nat} (h : m < n) : upd (fb_put f (fun k => g (k + (m + 1))) (a + (m + 1)) (n - (m + 1))) (a + m) (g m) = fb_put f (fun k => g (k + m)) (a + m) (n - m) := by
  funext k
  by_cases h0 : k = a + m
  · subst h0
    simp only [upd, if_true]
    rw [fb_put_in (by omega) (by omega)]
    exact congrArg g (by omega)
  · simp only [upd, if_neg h0]
    by_cases h1 : a + (m + 1) ≤ k ∧ k < a + (m + 1) + (n - (m + 1))
    · rw [fb_put_in h1.1 h1.2, fb_put_in (by omega) (by omega)]
      exact congrArg g (by omega)
    · rw [fb_put_out (by omega), fb_put_out (by omega)]
theorem fb_put_cong {α : Type} {f f2 g g2 : Nat → α} {a n : Nat} (hf : ∀ k, (k < a ∨ a + n ≤ k) → f k = f2 k) (hg : ∀ k, k < n → g k = g2 k) : fb_put f g a n = fb_put f2 g2 a n := by
  funext k
  by_cases h : a ≤ k ∧ k < a + n
  · rw [fb_put_in h.1 h.2, fb_put_in h.1 h.2, hg _ (by omega)]
  · rw [fb_put_out (by omega), fb_put_out (by omega), hf _ (by omega)]
/-! ===== the least, the first, the best so far; that there is one alone ===== -/
theorem fb_first {p : Nat → Prop} [DecidablePred p] : ∀ {n : Nat}, (∃ i, i < n ∧ p i) → ∃ i, i < n ∧ p i ∧ ∀ j, j < i → ¬ p j
  | 0, h => by obtain ⟨i, hi, -⟩ := h; exact absurd hi (Nat.not_lt_zero i)
  | n + 1, h => by
    by_cases q : ∃ i, i < n ∧ p i
    · obtain ⟨i, h1, h2⟩ := fb_first q
      exact ⟨i, by omega, h2⟩
    · obtain ⟨i, h1, h2⟩ := h
      have e : i = n := by
        rcases Nat.lt_or_ge i n with r | r
        · exact absurd ⟨i, r, h2⟩ q
        · omega
      subst e
      exact ⟨i, by omega, h2, fun j hj hp => q ⟨j, hj, hp⟩⟩
theorem fb_first_one {p : Nat → Prop} {i j : Nat} (hi : p i) (hi2 : ∀ k, k < i → ¬ p k) (hj : p j) (hj2 : ∀ k, k < j → ¬ p k) : i = j := by
  rcases Nat.lt_trichotomy i j with q | q | q
  · exact absurd hi (hj2 i q)
  · exact q
  · exact absurd hj (hi2 j q)
theorem fb_last {p : Nat → Prop} [DecidablePred p] : ∀ {n : Nat}, (∃ i, i < n ∧ p i) → ∃ i, i < n ∧ p i ∧ ∀ j, i < j → j < n → ¬ p j
  | 0, h => by obtain ⟨i, hi, -⟩ := h; exact absurd hi (Nat.not_lt_zero i)
  | n + 1, h => by
    by_cases q : p n
    · exact ⟨n, by omega, q, fun j h1 h2 => by omega⟩
    · obtain ⟨i, h1, h2⟩ := h
      have hi : i < n := by
        rcases Nat.lt_or_ge i n with r | r
        · exact r
        · have e : i = n := by omega
          subst e
          exact absurd h2 q
      obtain ⟨i2, a1, a2, a3⟩ := fb_last (n := n) ⟨i, hi, h2⟩
      refine ⟨i2, by omega, a2, fun j b1 b2 => ?_⟩
      rcases Nat.lt_or_ge j n with r | r
      · exact a3 j b1 r
      · have e : j = n := by omega
        subst e
        exact q
/-- the first greatest -/
theorem fb_best (f : Nat → Int) : ∀ {n : Nat}, 0 < n → ∃ i, i < n ∧ (∀ j, j < n → f j ≤ f i) ∧ ∀ j, j < i → f j < f i
  | 0, h => absurd h (Nat.lt_irrefl 0)
  | 1, _ => ⟨0, by omega, fun j hj => by have e : j = 0 := by omega
                                         subst e; exact Int.le_refl _, fun j hj => absurd hj (Nat.not_lt_zero j)⟩
  | n + 2, _ => by
    obtain ⟨i, h1, h2, h3⟩ := fb_best f (n := n + 1) (by omega)
    by_cases q : f i < f (n + 1)
    · refine ⟨n + 1, by omega, fun j hj => ?_, fun j hj => ?_⟩
      · rcases Nat.lt_or_ge j (n + 1) with r | r
        · have := h2 j r; omega
        · have e : j = n + 1 := by omega
          subst e; exact Int.le_refl _
      · have := h2 j hj; omega
    · refine ⟨i, by omega, fun j hj => ?_, h3⟩
      rcases Nat.lt_or_ge j (n + 1) with r | r
      · exact h2 j r
      · have e : j = n + 1 := by omega
        subst e; omega
theorem fb_best_one {f : Nat → Int} {n i j : Nat} (hi : i < n) (hi2 : ∀ k, k < n → f k ≤ f i) (hi3 : ∀ k, k < i → f k < f i) (hj : j < n) (hj2 : ∀ k, k < n → f k ≤ f j) (hj3 : ∀ k, k < j → f k < f j) : i = j := by
  rcases Nat.lt_trichotomy i j with q | q | q
  · have a := hj3 i q
    have b := hi2 j hj
    omega
  · exact q
  · have a := hi3 j q
    have b := hj2 i hi
    omega
/-- the first least -/
theorem fb_low (f : Nat → Int) {n : Nat} (h : 0 < n) : ∃ i, i < n ∧ (∀ j, j < n → f i ≤ f j) ∧ ∀ j, j < i → f i < f j := by
  obtain ⟨i, h1, h2, h3⟩ := fb_best (fun k => -f k) h
  exact ⟨i, h1, fun j hj => by have := h2 j hj; omega, fun j hj => by have := h3 j hj; omega⟩
/-! ===== signed ints as whole numbers, within bounds ===== -/
theorem fb_rng (x : Int32) : -2147483648 ≤ x.toInt ∧ x.toInt < 2147483648 := by
  have h1 := Int32.le_toInt x
  have h2 := Int32.toInt_lt x
  omega
theorem fb_bmod {z : Int} (h1 : -2147483648 ≤ z) (h2 : z < 2147483648) : z.bmod (2 ^ 32) = z := by
  rw [Int.bmod_eq_of_le (by omega) (by omega)]
theorem fb_addI {x y : Int32} (h1 : -2147483648 ≤ x.toInt + y.toInt) (h2 : x.toInt + y.toInt < 2147483648) : (x + y).toInt = x.toInt + y.toInt := by
  rw [Int32.toInt_add, fb_bmod h1 h2]
theorem fb_subI {x y : Int32} (h1 : -2147483648 ≤ x.toInt - y.toInt) (h2 : x.toInt - y.toInt < 2147483648) : (x - y).toInt = x.toInt - y.toInt := by
  rw [Int32.toInt_sub, fb_bmod h1 h2]
theorem fb_mulI {x y : Int32} (h1 : -2147483648 ≤ x.toInt * y.toInt) (h2 : x.toInt * y.toInt < 2147483648) : (x * y).toInt = x.toInt * y.toInt := by
  rw [Int32.toInt_mul, fb_bmod h1 h2]
theorem fb_negI {x : Int32} (h : x.toInt ≠ -2147483648) : (-x).toInt = -x.toInt := by
  have := fb_rng x
  rw [Int32.toInt_neg, fb_bmod (by omega) (by omega)]
theorem fb_ofI {z : Int} (h1 : -2147483648 ≤ z) (h2 : z < 2147483648) : (Int32.ofInt z).toInt = z := by
  rw [Int32.toInt_ofInt, fb_bmod h1 h2]
theorem fb_asI (x : Int32) : Int32.ofInt x.toInt = x := Int32.ofInt_toInt x
theorem fb_rngL (x : Int64) : -9223372036854775808 ≤ x.toInt ∧ x.toInt < 9223372036854775808 := by
  have h1 := Int64.le_toInt x
  have h2 := Int64.toInt_lt x
  omega
theorem fb_bmodL {z : Int} (h1 : -9223372036854775808 ≤ z) (h2 : z < 9223372036854775808) : z.bmod (2 ^ 64) = z := by
  rw [Int.bmod_eq_of_le (by omega) (by omega)]
theorem fb_addL {x y : Int64} (h1 : -9223372036854775808 ≤ x.toInt + y.toInt) (h2 : x.toInt + y.toInt < 9223372036854775808) : (x + y).toInt = x.toInt + y.toInt := by
  rw [Int64.toInt_add, fb_bmodL h1 h2]
theorem fb_subL {x y : Int64} (h1 : -9223372036854775808 ≤ x.toInt - y.toInt) (h2 : x.toInt - y.toInt < 9223372036854775808) : (x - y).toInt = x.toInt - y.toInt := by
  rw [Int64.toInt_sub, fb_bmodL h1 h2]
theorem fb_mulL {x y : Int64} (h1 : -9223372036854775808 ≤ x.toInt * y.toInt) (h2 : x.toInt * y.toInt < 9223372036854775808) : (x * y).toInt = x.toInt * y.toInt := by
  rw [Int64.toInt_mul, fb_bmodL h1 h2]
/-! ===== cuts of what is narrow already ===== -/
theorem fb_byte {x : Int32} (h1 : -128 ≤ x.toInt) (h2 : x.toInt < 128) : x.toInt8.toInt32 = x := by
  apply Int32.toInt_inj.1
  rw [Int8.toInt_toInt32, Int32.toInt_toInt8, Int.bmod_eq_of_le (by omega) (by omega)]
theorem fb_short {x : Int32} (h1 : -32768 ≤ x.toInt) (h2 : x.toInt < 32768) : x.toInt16.toInt32 = x := by
  apply Int32.toInt_inj.1
  rw [Int16.toInt_toInt32, Int32.toInt_toInt16, Int.bmod_eq_of_le (by omega) (by omega)]
theorem fb_byte_rng (x : Int32) : -128 ≤ x.toInt8.toInt32.toInt ∧ x.toInt8.toInt32.toInt < 128 := by
  rw [Int8.toInt_toInt32]
  have h1 := Int8.le_toInt x.toInt8
  have h2 := Int8.toInt_lt x.toInt8
  omega
theorem fb_short_rng (x : Int32) : -32768 ≤ x.toInt16.toInt32.toInt ∧ x.toInt16.toInt32.toInt < 32768 := by
  rw [Int16.toInt_toInt32]
  have h1 := Int16.le_toInt x.toInt16
  have h2 := Int16.toInt_lt x.toInt16
  omega
theorem fb_byte_twice (x : Int32) : x.toInt8.toInt32.toInt8.toInt32 = x.toInt8.toInt32 := fb_byte (fb_byte_rng x).1 (fb_byte_rng x).2
theorem fb_short_twice (x : Int32) : x.toInt16.toInt32.toInt16.toInt32 = x.toInt16.toInt32 := fb_short (fb_short_rng x).1 (fb_short_rng x).2
theorem fb_char {n : Nat} (h : n < 65536) : (nI n).toUInt32.toUInt16.toUInt32.toInt32 = nI n := by
  apply Int32.toBitVec_inj.1
  apply BitVec.eq_of_toNat_eq
  have e1 : (nI n).toBitVec.toNat = n := by
    show (BitVec.ofNat 32 n).toNat = n
    rw [BitVec.toNat_ofNat, Nat.mod_eq_of_lt (by omega)]
  have e2 : ((nI n).toUInt32.toUInt16.toUInt32).toNat = n := by
    rw [UInt16.toNat_toUInt32, UInt32.toNat_toUInt16]
    show (nI n).toBitVec.toNat % 2 ^ 16 = n
    rw [e1, Nat.mod_eq_of_lt (by omega)]
  rw [e1]
  exact e2

/-! the class's cells and the reference's cells say the same -/
theorem az_upe {I : Nat → Nat → Int32} {a b k : Nat} {x : Int32} : az_up I a k x b = if b = a then upd (I a) k x else I b := by
  by_cases h : b = a
  · subst h; rw [if_pos rfl, az_up_self]
  · rw [if_neg h, az_up_ne h]
theorem az_upje {J : Nat → Nat → Int64} {a k : Nat} {x : Int64} : az_upJ J a k x a k = x := by simp [az_upJ]
theorem upd_at {f : Nat → Int32} {k : Nat} {x : Int32} : upd f k x k = x := by simp [upd]
def az_prs : List (Nat × Nat) := [(2, 153), (3, 154), (4, 155), (6, 156), (7, 157), (8, 184), (9, 185), (10, 186), (11, 187), (12, 188), (13, 189), (19, 158), (20, 159), (21, 160), (22, 161), (23, 162), (24, 163), (25, 164), (26, 165), (27, 166), (29, 167), (30, 168), (31, 169), (32, 170), (37, 172), (38, 173), (39, 174), (107, 177), (110, 178), (108, 179), (109, 180)]
theorem az_lc0 {x y : Int32} : lg_cmp x.toInt64 y.toInt64 = 0 ↔ x = y := by
  unfold lg_cmp
  constructor
  · intro h
    split at h
    · cases h
    · split at h
      · rename_i h2
        have := congrArg Int64.toInt h2
        simp only [Int32.toInt_toInt64] at this
        exact Int32.toInt_inj.mp this
      · cases h
  · intro h
    subst h
    simp
/-- an END as the reference keeps it -/
def az_nv (x : Int32) : Int32 := if x = -1 then 100000 else x
def az_eqs (I : Nat → Nat → Int32) : Prop := I 153 = I 2 ∧ I 154 = I 3 ∧ I 155 = I 4 ∧ I 156 = I 6 ∧ I 157 = I 7 ∧ I 184 = I 8 ∧ I 185 = I 9 ∧ I 186 = I 10 ∧ I 187 = I 11 ∧ I 188 = I 12 ∧ I 189 = I 13 ∧ I 158 = I 19 ∧ I 159 = I 20 ∧ I 160 = I 21 ∧ I 161 = I 22 ∧ I 162 = I 23 ∧ I 163 = I 24 ∧ I 164 = I 25 ∧ I 165 = I 26 ∧ I 166 = I 27 ∧ I 167 = I 29 ∧ I 168 = I 30 ∧ I 169 = I 31 ∧ I 170 = I 32 ∧ I 172 = I 37 ∧ I 173 = I 38 ∧ I 174 = I 39 ∧ I 177 = I 107 ∧ I 178 = I 110 ∧ I 179 = I 108 ∧ I 180 = I 109
def az_cnt (mo nc nl ng np : Nat) (I : Nat → Nat → Int32) : Prop := (I 0 6 = nI mo ∧ I 152 1 = nI mo ∧ mo ≤ 240) ∧ (I 18 9 = nI nc ∧ I 152 7 = nI nc ∧ nc ≤ 12) ∧ (I 28 7 = nI nl ∧ I 152 17 = nI nl ∧ nl ≤ 60) ∧ (I 36 7 = nI ng ∧ I 152 23 = nI ng ∧ ng ≤ 6) ∧ (I 106 5 = nI np ∧ I 152 31 = nI np ∧ np ≤ 40)
def az_eend (I : Nat → Nat → Int32) : Prop := I 171 = fun j => az_nv (I 33 j)
def az_edue (I : Nat → Nat → Int32) : Prop := ∀ l, l < 3 → ∀ c, c < 4 → I 190 (4 * l + c) = I (15 + l) c
def az_eopn (I : Nat → Nat → Int32) : Prop := ∀ p, p < 40 → ∀ j, j < 60 → I 183 (60 * p + j) = I (112 + p) j
def az_ebar (I : Nat → Nat → Int32) : Prop := ∀ a, a < 6 → ∃ m : Nat, m < 64 ∧ I 40 a = nI m ∧ (m.testBit a = false) ∧ ∀ b, b < 6 → I 175 (6 * a + b) = (if m.testBit b then 1 else 0) ∧ I 175 (6 * b + a) = I 175 (6 * a + b)
def az_life (x : Int32) : Prop := x = 0 ∨ (6 ≤ x ∧ x ≤ 60)
def az_vld (I : Nat → Nat → Int32) : Prop := ∀ l, l < 3 → az_life (I 2 l) ∧ (0 ≤ I 3 l ∧ I 3 l ≤ 9)
def az_vch (I : Nat → Nat → Int32) : Prop := ∀ c, c < 4 → I 6 c = 0 ∨ I 6 c = 1
def az_vcd (nc : Nat) (I : Nat → Nat → Int32) : Prop := (∀ i, i < nc → (az_in (I 19 i) 4 = true ∧ az_in (I 20 i) 3 = true) ∧ az_life (I 21 i) ∧ (0 ≤ I 22 i ∧ I 22 i ≤ 9) ∧ az_in (I 24 i) 3 = true ∧ az_in (I 26 i) 3 = true) ∧ ∀ i, nc ≤ i → I 24 i = 0 ∧ I 26 i = 0 ∧ I 27 i = 0
def az_vlt (nc nl t : Nat) (I : Nat → Nat → Int32) : Prop := ∀ j, j < nl → az_in (I 29 j) nc = true ∧ az_in (I 30 j) 4 = true ∧ (0 ≤ (I 31 j).toInt ∧ (I 31 j).toInt ≤ 1000 * (t + 1)) ∧ ∃ b e : Nat, I 32 j = nI b ∧ (I 33 j = -1 ∨ (I 33 j = nI e ∧ b < e ∧ e ≤ 300))
def az_vcp (ng : Nat) (I : Nat → Nat → Int32) : Prop := ∀ a, a < ng → ∃ v u : Nat, ((I 37 a = 1 ∧ v ≤ 90) ∨ (I 37 a = 0 ∧ v ≤ 200)) ∧ 1 ≤ v ∧ I 38 a = nI v ∧ I 39 a = nI u ∧ u ≤ 500
/-- what a sequence of lots in their order is: each ahead of the next -/
def az_lt (I : Nat → Nat → Int32) (a b : Nat) : Prop := (az_nv (I 33 a)).toInt < (az_nv (I 33 b)).toInt ∨ (I 33 a = I 33 b ∧ ((I 30 b).toInt < (I 30 a).toInt ∨ (I 30 a = I 30 b ∧ a < b)))
def az_vpy (nc nl np : Nat) (I : Nat → Nat → Int32) : Prop := ∀ p, p < np → az_in (I 107 p) nc = true ∧ (∃ n : Nat, n ≤ 1000 ∧ I 109 p = nI n) ∧
  ∃ w : Nat, w ≤ 60 ∧ I 181 p = nI w ∧ (∃ f : Nat → Nat, (∀ k, k < w → I 182 (60 * p + k) = nI (f k) ∧ f k < nl) ∧ (∀ k m, k < m → m < w → az_lt I (f k) (f m)) ∧ (∀ j, j < 60 → 0 ≤ (I (112 + p) j).toInt ∧ ((I (112 + p) j).toInt ≠ 0 → ∃ k, k < w ∧ f k = j)) ∧ (I 109 p).toInt = fb_si (fun k => (I (112 + p) (f k)).toInt) w)
def az_pz (np : Nat) (I : Nat → Nat → Int32) : Prop := ∀ p, np ≤ p → p < 40 → I 181 p = 0 ∧ ∀ j, j < 60 → I 183 (60 * p + j) = 0
def az_Sim (I : Nat → Nat → Int32) (mo nc nl ng np t : Nat) : Prop := az_eqs I ∧ az_cnt mo nc nl ng np I ∧ az_eend I ∧ az_edue I ∧ az_eopn I ∧ az_ebar I ∧ az_vld I ∧ az_vch I ∧ az_vcd nc I ∧ az_vlt nc nl t I ∧ az_vcp ng I ∧ az_vpy nc nl np I ∧ az_pz np I
def az_sc (xs : az_X) (i : Nat) : Prop := az_in (nI i) xs.1 = true ∧ az_in (nI i + 1) xs.1 = true ∧ az_in (nI i + 2) xs.1 = true ∧ az_in (nI i + 3) xs.1 = true ∧ az_in (nI i + 4) xs.1 = true
abbrev az_LL (i : Nat) (o5 o6 : Option Value) : az_Ls := [some (.ref az_scr), some (.ref 0), some (.ref 152), some (.ref 191), some (.int (nI i)), o5, o6]
def az_set (I : Nat → Nat → Int32) (a : Nat) (f : Nat → Int32) : Nat → Nat → Int32 := fun b => if b = a then f else I b
theorem az_sete {I : Nat → Nat → Int32} {a b : Nat} {f : Nat → Int32} : az_set I a f b = if b = a then f else I b := rfl
theorem az_set_ne {I : Nat → Nat → Int32} {a b : Nat} {f : Nat → Int32} (h : b ≠ a) : az_set I a f b = I b := if_neg h
theorem az_up_set {I : Nat → Nat → Int32} {a k : Nat} {x : Int32} : az_up I a k x = az_set I a (upd (I a) k x) := by
  funext b
  rw [az_upe, az_sete]
theorem upde {f : Nat → Int32} {k j : Nat} {x : Int32} : upd f k x j = if j = k then x else f j := rfl
theorem fr_eend {I I' : Nat → Nat → Int32} (e171 : I' 171 = I 171) (e33 : I' 33 = I 33) (h : az_eend  I) : az_eend  I' := by
  unfold az_eend at h ⊢
  rw [e171, e33]
  exact h
theorem fr_edue {I I' : Nat → Nat → Int32} (e190 : I' 190 = I 190) (e15 : I' 15 = I 15) (e16 : I' 16 = I 16) (e17 : I' 17 = I 17) (h : az_edue I) : az_edue I' := by
  intro l hl c hc
  have e : I' (15 + l) = I (15 + l) := by
    match l, hl with
    | 0, _ => exact e15
    | 1, _ => exact e16
    | 2, _ => exact e17
  rw [e190, e]
  exact h l hl c hc
theorem fr_eopn {I I' : Nat → Nat → Int32} (e183 : I' 183 = I 183) (ep : ∀ p, p < 40 → I' (112 + p) = I (112 + p)) (h : az_eopn I) : az_eopn I' := by
  intro p hp j hj
  rw [e183, ep p hp]
  exact h p hp j hj
theorem fr_ebar {I I' : Nat → Nat → Int32} (e40 : I' 40 = I 40) (e175 : I' 175 = I 175) (h : az_ebar  I) : az_ebar  I' := by
  unfold az_ebar at h ⊢
  rw [e40, e175]
  exact h
theorem fr_vld {I I' : Nat → Nat → Int32} (e2 : I' 2 = I 2) (e3 : I' 3 = I 3) (h : az_vld  I) : az_vld  I' := by
  unfold az_vld at h ⊢
  rw [e2, e3]
  exact h
theorem fr_vch {I I' : Nat → Nat → Int32} (e6 : I' 6 = I 6) (h : az_vch  I) : az_vch  I' := by
  unfold az_vch at h ⊢
  rw [e6]
  exact h
theorem fr_vcd {I I' : Nat → Nat → Int32} {nc : Nat} (e19 : I' 19 = I 19) (e20 : I' 20 = I 20) (e21 : I' 21 = I 21) (e22 : I' 22 = I 22) (e24 : I' 24 = I 24) (e26 : I' 26 = I 26) (e27 : I' 27 = I 27) (h : az_vcd nc I) : az_vcd nc I' := by
  unfold az_vcd at h ⊢
  rw [e19, e20, e21, e22, e24, e26, e27]
  exact h
theorem fr_vlt {I I' : Nat → Nat → Int32} {nc nl t : Nat} (e29 : I' 29 = I 29) (e30 : I' 30 = I 30) (e31 : I' 31 = I 31) (e32 : I' 32 = I 32) (e33 : I' 33 = I 33) (h : az_vlt nc nl t I) : az_vlt nc nl t I' := by
  unfold az_vlt at h ⊢
  rw [e29, e30, e31, e32, e33]
  exact h
theorem fr_vcp {I I' : Nat → Nat → Int32} {ng : Nat} (e37 : I' 37 = I 37) (e38 : I' 38 = I 38) (e39 : I' 39 = I 39) (h : az_vcp ng I) : az_vcp ng I' := by
  unfold az_vcp at h ⊢
  rw [e37, e38, e39]
  exact h
theorem fr_vpy {I I' : Nat → Nat → Int32} {nc nl np : Nat} (hn : np ≤ 40) (e33 : I' 33 = I 33) (e30 : I' 30 = I 30) (e107 : I' 107 = I 107) (e109 : I' 109 = I 109) (e181 : I' 181 = I 181) (e182 : I' 182 = I 182) (ep : ∀ p, p < 40 → I' (112 + p) = I (112 + p)) (h : az_vpy nc nl np I) : az_vpy nc nl np I' := by
  intro p hp
  have hl : ∀ a b, az_lt I' a b = az_lt I a b := fun a b => by unfold az_lt; rw [e33, e30]
  have h := h p hp
  simp only [hl, e107, e109, e181, e182, ep p (by omega)]
  exact h
theorem fr_pz {I I' : Nat → Nat → Int32} {np : Nat} (e181 : I' 181 = I 181) (e183 : I' 183 = I 183) (h : az_pz np I) : az_pz np I' := by
  unfold az_pz at h ⊢
  rw [e181, e183]
  exact h
/-- a call of the script is done -/
def az_go (xs : az_X) (i t c z : Nat) (K : az_O → Prop) : Prop := ∀ (o5 o6 : Option Value) (I : Nat → Nat → Int32) (J : Nat → Nat → Int64) (c' z' mo nc nl ng np : Nat), az_Sim I mo nc nl ng np (t + 1) → c' ≤ c + 1 → z' ≤ z + 6 → az_W xs 30 171 2058 (az_LL i o5 o6) [] (az_S, I, J, c', z') K
theorem az_in01 : az_in 0 1 = true := by decide
theorem az_c0 : Int32.toNatClampNeg 0 = 0 := by decide
theorem az_vlt_t {nc nl t : Nat} {I : Nat → Nat → Int32} (h : az_vlt nc nl t I) : az_vlt nc nl (t + 1) I := fun j hj => by
  obtain ⟨h1, h2, h3, h4⟩ := h j hj
  exact ⟨h1, h2, ⟨h3.1, by have := h3.2; omega⟩, h4⟩
theorem az_Sim_t {I : Nat → Nat → Int32} {mo nc nl ng np t : Nat} (h : az_Sim I mo nc nl ng np t) : az_Sim I mo nc nl ng np (t + 1) := by
  obtain ⟨h1, h2, h3, h4, h5, h6, h7, h8, h9, h10, h11⟩ := h
  exact ⟨h1, h2, h3, h4, h5, h6, h7, h8, h9, az_vlt_t h10, h11⟩
/-- the state but for cells that nothing is said of -/
def az_dc : List Nat := [2, 3, 4, 6, 7, 8, 9, 10, 11, 12, 13, 15, 16, 17, 19, 20, 21, 22, 23, 24, 25, 26, 27, 29, 30, 31, 32, 33, 37, 38, 39, 40, 107, 108, 109, 110, 153, 154, 155, 156, 157, 158, 159, 160, 161, 162, 163, 164, 165, 166, 167, 168, 169, 170, 171, 172, 173, 174, 175, 177, 178, 179, 180, 181, 182, 183, 184, 185, 186, 187, 188, 189, 190] ++ (List.range 40).map fun p => 112 + p
theorem az_Sim_eq {I I' : Nat → Nat → Int32} {mo nc nl ng np t : Nat} (h : az_Sim I mo nc nl ng np t) (hd : ∀ a ∈ az_dc, I' a = I a) (hf : I' 0 6 = I 0 6 ∧ I' 152 1 = I 152 1 ∧ I' 18 9 = I 18 9 ∧ I' 152 7 = I 152 7 ∧ I' 28 7 = I 28 7 ∧ I' 152 17 = I 152 17 ∧ I' 36 7 = I 36 7 ∧ I' 152 23 = I 152 23 ∧ I' 106 5 = I 106 5 ∧ I' 152 31 = I 152 31) : az_Sim I' mo nc nl ng np t := by
  have e : ∀ a, a ∈ az_dc → I' a = I a := hd
  obtain ⟨f1, f2, f3, f4, f5, f6, f7, f8, f9, f10⟩ := hf
  have ep : ∀ p, p < 40 → I' (112 + p) = I (112 + p) := fun p hp => e _ (by unfold az_dc; exact List.mem_append_right _ (List.mem_map.mpr ⟨p, List.mem_range.mpr hp, rfl⟩))
  have ed : ∀ p, p < 3 → I' (15 + p) = I (15 + p) := fun p hp => by
    match p, hp with
    | 0, _ => exact e 15 (by decide +kernel)
    | 1, _ => exact e 16 (by decide +kernel)
    | 2, _ => exact e 17 (by decide +kernel)
  have e2 := e 2 (by decide +kernel)
  have e3 := e 3 (by decide +kernel)
  have e4 := e 4 (by decide +kernel)
  have e6 := e 6 (by decide +kernel)
  have e7 := e 7 (by decide +kernel)
  have e8 := e 8 (by decide +kernel)
  have e9 := e 9 (by decide +kernel)
  have e10 := e 10 (by decide +kernel)
  have e11 := e 11 (by decide +kernel)
  have e12 := e 12 (by decide +kernel)
  have e13 := e 13 (by decide +kernel)
  have e19 := e 19 (by decide +kernel)
  have e20 := e 20 (by decide +kernel)
  have e21 := e 21 (by decide +kernel)
  have e22 := e 22 (by decide +kernel)
  have e23 := e 23 (by decide +kernel)
  have e24 := e 24 (by decide +kernel)
  have e25 := e 25 (by decide +kernel)
  have e26 := e 26 (by decide +kernel)
  have e27 := e 27 (by decide +kernel)
  have e29 := e 29 (by decide +kernel)
  have e30 := e 30 (by decide +kernel)
  have e31 := e 31 (by decide +kernel)
  have e32 := e 32 (by decide +kernel)
  have e33 := e 33 (by decide +kernel)
  have e37 := e 37 (by decide +kernel)
  have e38 := e 38 (by decide +kernel)
  have e39 := e 39 (by decide +kernel)
  have e40 := e 40 (by decide +kernel)
  have e107 := e 107 (by decide +kernel)
  have e108 := e 108 (by decide +kernel)
  have e109 := e 109 (by decide +kernel)
  have e110 := e 110 (by decide +kernel)
  have e153 := e 153 (by decide +kernel)
  have e154 := e 154 (by decide +kernel)
  have e155 := e 155 (by decide +kernel)
  have e156 := e 156 (by decide +kernel)
  have e157 := e 157 (by decide +kernel)
  have e158 := e 158 (by decide +kernel)
  have e159 := e 159 (by decide +kernel)
  have e160 := e 160 (by decide +kernel)
  have e161 := e 161 (by decide +kernel)
  have e162 := e 162 (by decide +kernel)
  have e163 := e 163 (by decide +kernel)
  have e164 := e 164 (by decide +kernel)
  have e165 := e 165 (by decide +kernel)
  have e166 := e 166 (by decide +kernel)
  have e167 := e 167 (by decide +kernel)
  have e168 := e 168 (by decide +kernel)
  have e169 := e 169 (by decide +kernel)
  have e170 := e 170 (by decide +kernel)
  have e171 := e 171 (by decide +kernel)
  have e172 := e 172 (by decide +kernel)
  have e173 := e 173 (by decide +kernel)
  have e174 := e 174 (by decide +kernel)
  have e175 := e 175 (by decide +kernel)
  have e177 := e 177 (by decide +kernel)
  have e178 := e 178 (by decide +kernel)
  have e179 := e 179 (by decide +kernel)
  have e180 := e 180 (by decide +kernel)
  have e181 := e 181 (by decide +kernel)
  have e182 := e 182 (by decide +kernel)
  have e183 := e 183 (by decide +kernel)
  have e184 := e 184 (by decide +kernel)
  have e185 := e 185 (by decide +kernel)
  have e186 := e 186 (by decide +kernel)
  have e187 := e 187 (by decide +kernel)
  have e188 := e 188 (by decide +kernel)
  have e189 := e 189 (by decide +kernel)
  have e190 := e 190 (by decide +kernel)
  obtain ⟨h1, h2, h3, h4, h5, h6, h7, h8, h9, h10, h11, h12, h13⟩ := h
  refine ⟨?_, ?_, ?_, ?_, ?_, ?_, ?_, ?_, ?_, ?_, ?_, ?_, ?_⟩
  · unfold az_eqs at h1 ⊢
    simp only [e2, e3, e4, e6, e7, e8, e9, e10, e11, e12, e13, e19, e20, e21, e22, e23, e24, e25, e26, e27, e29, e30, e31, e32, e33, e37, e38, e39, e40, e107, e108, e109, e110, e153, e154, e155, e156, e157, e158, e159, e160, e161, e162, e163, e164, e165, e166, e167, e168, e169, e170, e171, e172, e173, e174, e175, e177, e178, e179, e180, e181, e182, e183, e184, e185, e186, e187, e188, e189, e190]
    exact h1
  · unfold az_cnt at h2 ⊢
    simp only [f1, f2, f3, f4, f5, f6, f7, f8, f9, f10]
    exact h2
  · unfold az_eend at h3 ⊢
    rw [e171, e33]
    exact h3
  · intro l hl c hc
    rw [e190, ed l hl]
    exact h4 l hl c hc
  · intro p hp j hj
    rw [e183, ep p hp]
    exact h5 p hp j hj
  · unfold az_ebar at h6 ⊢
    rw [e40, e175]
    exact h6
  · unfold az_vld at h7 ⊢
    rw [e2, e3]
    exact h7
  · unfold az_vch at h8 ⊢
    rw [e6]
    exact h8
  · unfold az_vcd at h9 ⊢
    rw [e19, e20, e21, e22, e24, e26, e27]
    exact h9
  · unfold az_vlt at h10 ⊢
    rw [e29, e30, e31, e32, e33]
    exact h10
  · unfold az_vcp at h11 ⊢
    rw [e37, e38, e39]
    exact h11
  · intro p hp
    have hl : ∀ a b, az_lt I' a b = az_lt I a b := fun a b => by unfold az_lt; rw [e33, e30]
    have h := h12 p hp
    by_cases h40 : p < 40
    · simp only [hl, e107, e109, e181, e182, ep p h40]
      exact h
    · exact absurd hp (by have := h2.2.2.2.2.2.2; omega)
  · unfold az_pz at h13 ⊢
    rw [e181, e183]
    exact h13
theorem az_Sim_th {I : Nat → Nat → Int32} {mo nc nl ng np t k : Nat} {x : Int32} (H : az_Sim I mo nc nl ng np t) (hk : k = 0 := by rfl) : az_Sim (az_up I 152 k x) mo nc nl ng np t := by
  subst hk
  refine az_Sim_eq H (fun a ha => az_up_ne ?_) ?_
  · intro h
    subst h
    exact absurd ha (by decide +kernel)
  · simp [az_upe, upde]
section
variable {xs : az_X} {d : Nat} {S : List az_Shp} {I : Nat → Nat → Int32} {J : Nat → Nat → Int64} {c z : Nat} {G : az_G} {K : az_O → Prop}
theorem r90 {v a b : Int32} : az_C xs (d + 1) 90 [.int v, .int a, .int b] G K ↔ K (0, some (.int (if a ≤ v ∧ v ≤ b then 1 else 0)), G) := by
  have e1 : v < a ↔ v.toInt < a.toInt := Int32.lt_iff_toInt_lt
  have e2 : a ≤ v ↔ a.toInt ≤ v.toInt := Int32.le_iff_toInt_le
  have e3 : v ≤ b ↔ v.toInt ≤ b.toInt := Int32.le_iff_toInt_le
  have e4 : b < v ↔ b.toInt < v.toInt := Int32.lt_iff_toInt_lt
  simp (maxDischargeDepth := 7) only [C90, th90, s90_0, s90_1, s90_2, s90_5, s90_6, s90_7, s90_10, s90_11, s90_14, s90_15, az_ex, az_bk0, az_bk1, az_bkx, az_cat0, az_cati, az_catr, az_catl, az_vi, az_vr, az_bo0, az_bo1, az_boi, true_and, and_true, if_true, if_false, ne_eq, not_true_eq_false, not_false_eq_true, List.set_cons_zero, List.set_cons_succ, Nat.reduceAdd, Nat.reduceLeDiff, Nat.reduceEqDiff, ↓reduceIte, reduceCtorEq, Nat.reduceSub, Nat.reduceMul, Int32.reduceLT, Int32.reduceLE, Int32.reduceAdd, Int32.reduceMul, Int32.reduceSub, az_ne10, az_ne20, az_ne30, Nat.zero_le]
  by_cases h1 : a.toInt ≤ v.toInt <;> by_cases h2 : v.toInt ≤ b.toInt <;> simp (config := { failIfUnchanged := false }) only [e1, e2, e3, e4, h1, h2, Int.not_lt, Int.not_le, and_self, and_true, true_and, and_false, false_and, if_true, if_false, Int.lt_iff_add_one_le] <;> (repeat' split) <;> first | rfl | (exfalso; omega)
theorem az_in_le {k : Int32} {n : Nat} (hn : n < 2 ^ 30) : (0 ≤ k ∧ k ≤ nI n) ↔ az_in k (n + 1) = true := by
  rw [az_int, Int32.le_iff_toInt_le, Int32.le_iff_toInt_le, nI_toInt (by omega)]
  have : (0 : Int32).toInt = 0 := rfl
  rw [this]
  omega
theorem az_in_lm {k : Int32} {n : Nat} (hn : n < 2 ^ 30) : (0 ≤ k ∧ k ≤ nI n - 1) ↔ az_in k n = true := by
  cases n with
  | zero =>
    rw [az_int, Int32.le_iff_toInt_le, Int32.le_iff_toInt_le]
    have e1 : (0 : Int32).toInt = 0 := rfl
    have e2 : (nI 0 - 1).toInt = -1 := by decide
    rw [e1, e2]
    constructor <;> (intro h; exfalso; omega)
  | succ m => rw [nI_pred, az_in_le (by omega)]
theorem r91 {k : Int32} : az_C xs (d + 2) 91 [.int k] G K ↔ K (0, some (.int (if az_in k 3 = true then 1 else 0)), G) := by
  simp (maxDischargeDepth := 7) only [C91, th91, s91_0, s91_1, s91_2, s91_3, s91_6, cc90, az_ex, az_bk0, az_bk1, az_bkx, az_cat0, az_cati, az_catr, az_catl, az_vi, az_vr, az_bo0, az_bo1, az_boi, true_and, and_true, if_true, if_false, ne_eq, not_true_eq_false, not_false_eq_true, List.set_cons_zero, List.set_cons_succ, Nat.reduceAdd, Nat.reduceLeDiff, Nat.reduceEqDiff, ↓reduceIte, reduceCtorEq, Nat.reduceSub, Nat.reduceMul, Int32.reduceLT, Int32.reduceLE, Int32.reduceAdd, Int32.reduceMul, Int32.reduceSub, az_ne10, az_ne20, az_ne30, Nat.zero_le, r90]
  have h := az_in_le (k := k) (n := 2) (by decide)
  have e : nI 2 = 2 := rfl
  rw [e] at h
  simp only [h]
theorem r92 {k : Int32} : az_C xs (d + 2) 92 [.int k] G K ↔ K (0, some (.int (if az_in k 4 = true then 1 else 0)), G) := by
  simp (maxDischargeDepth := 7) only [C92, th92, s92_0, s92_1, s92_2, s92_3, s92_6, cc90, az_ex, az_bk0, az_bk1, az_bkx, az_cat0, az_cati, az_catr, az_catl, az_vi, az_vr, az_bo0, az_bo1, az_boi, true_and, and_true, if_true, if_false, ne_eq, not_true_eq_false, not_false_eq_true, List.set_cons_zero, List.set_cons_succ, Nat.reduceAdd, Nat.reduceLeDiff, Nat.reduceEqDiff, ↓reduceIte, reduceCtorEq, Nat.reduceSub, Nat.reduceMul, Int32.reduceLT, Int32.reduceLE, Int32.reduceAdd, Int32.reduceMul, Int32.reduceSub, az_ne10, az_ne20, az_ne30, Nat.zero_le, r90]
  have h := az_in_le (k := k) (n := 3) (by decide)
  have e : nI 3 = 3 := rfl
  rw [e] at h
  simp only [h]
theorem r93 {k : Int32} {n : Nat} (hn : n < 2 ^ 30) (h7 : I 152 7 = nI n) : az_C xs (d + 2) 93 [.ref 152, .int k] (az_S, I, J, c, z) K ↔ K (0, some (.int (if az_in k n = true then 1 else 0)), (az_S, I, J, c, z)) := by
  simp (maxDischargeDepth := 7) only [C93, th93, s93_0, s93_1, s93_2, s93_3, s93_6, s93_7, s93_8, s93_11, g152_7, cc90, az_ex, az_bk0, az_bk1, az_bkx, az_cat0, az_cati, az_catr, az_catl, az_vi, az_vr, az_bo0, az_bo1, az_boi, true_and, and_true, if_true, if_false, ne_eq, not_true_eq_false, not_false_eq_true, List.set_cons_zero, List.set_cons_succ, Nat.reduceAdd, Nat.reduceLeDiff, Nat.reduceEqDiff, ↓reduceIte, reduceCtorEq, Nat.reduceSub, Nat.reduceMul, Int32.reduceLT, Int32.reduceLE, Int32.reduceAdd, Int32.reduceMul, Int32.reduceSub, az_ne10, az_ne20, az_ne30, Nat.zero_le, r90, h7, az_in_lm hn]
theorem r94 {k : Int32} {n : Nat} (hn : n < 2 ^ 30) (h7 : I 152 17 = nI n) : az_C xs (d + 2) 94 [.ref 152, .int k] (az_S, I, J, c, z) K ↔ K (0, some (.int (if az_in k n = true then 1 else 0)), (az_S, I, J, c, z)) := by
  simp (maxDischargeDepth := 7) only [C94, th94, s94_0, s94_1, s94_2, s94_3, s94_6, s94_7, s94_8, s94_11, g152_17, cc90, az_ex, az_bk0, az_bk1, az_bkx, az_cat0, az_cati, az_catr, az_catl, az_vi, az_vr, az_bo0, az_bo1, az_boi, true_and, and_true, if_true, if_false, ne_eq, not_true_eq_false, not_false_eq_true, List.set_cons_zero, List.set_cons_succ, Nat.reduceAdd, Nat.reduceLeDiff, Nat.reduceEqDiff, ↓reduceIte, reduceCtorEq, Nat.reduceSub, Nat.reduceMul, Int32.reduceLT, Int32.reduceLE, Int32.reduceAdd, Int32.reduceMul, Int32.reduceSub, az_ne10, az_ne20, az_ne30, Nat.zero_le, r90, h7, az_in_lm hn]
theorem r95 {k : Int32} {n : Nat} (hn : n < 2 ^ 30) (h7 : I 152 23 = nI n) : az_C xs (d + 2) 95 [.ref 152, .int k] (az_S, I, J, c, z) K ↔ K (0, some (.int (if az_in k n = true then 1 else 0)), (az_S, I, J, c, z)) := by
  simp (maxDischargeDepth := 7) only [C95, th95, s95_0, s95_1, s95_2, s95_3, s95_6, s95_7, s95_8, s95_11, g152_23, cc90, az_ex, az_bk0, az_bk1, az_bkx, az_cat0, az_cati, az_catr, az_catl, az_vi, az_vr, az_bo0, az_bo1, az_boi, true_and, and_true, if_true, if_false, ne_eq, not_true_eq_false, not_false_eq_true, List.set_cons_zero, List.set_cons_succ, Nat.reduceAdd, Nat.reduceLeDiff, Nat.reduceEqDiff, ↓reduceIte, reduceCtorEq, Nat.reduceSub, Nat.reduceMul, Int32.reduceLT, Int32.reduceLE, Int32.reduceAdd, Int32.reduceMul, Int32.reduceSub, az_ne10, az_ne20, az_ne30, Nat.zero_le, r90, h7, az_in_lm hn]
theorem r96 {k : Int32} {n : Nat} (hn : n < 2 ^ 30) (h7 : I 152 31 = nI n) : az_C xs (d + 2) 96 [.ref 152, .int k] (az_S, I, J, c, z) K ↔ K (0, some (.int (if az_in k n = true then 1 else 0)), (az_S, I, J, c, z)) := by
  simp (maxDischargeDepth := 7) only [C96, th96, s96_0, s96_1, s96_2, s96_3, s96_6, s96_7, s96_8, s96_11, g152_31, cc90, az_ex, az_bk0, az_bk1, az_bkx, az_cat0, az_cati, az_catr, az_catl, az_vi, az_vr, az_bo0, az_bo1, az_boi, true_and, and_true, if_true, if_false, ne_eq, not_true_eq_false, not_false_eq_true, List.set_cons_zero, List.set_cons_succ, Nat.reduceAdd, Nat.reduceLeDiff, Nat.reduceEqDiff, ↓reduceIte, reduceCtorEq, Nat.reduceSub, Nat.reduceMul, Int32.reduceLT, Int32.reduceLE, Int32.reduceAdd, Int32.reduceMul, Int32.reduceSub, az_ne10, az_ne20, az_ne30, Nat.zero_le, r90, h7, az_in_lm hn]
theorem r89 {p : Int32} : az_C xs (d + 1) 89 [.ref 152, .int p] (az_S, I, J, c, z) K ↔ K (0, some (.int (if p = 0 then 1 else 0)), (az_S, az_up I 152 0 p, J, c, z)) := by
  simp (maxDischargeDepth := 7) only [C89, th89, s89_0, s89_1, s89_2, s89_5, s89_6, s89_9, s89_10, s89_13, s89_14, p152_0, az_ex, az_bk0, az_bk1, az_bkx, az_cat0, az_cati, az_catr, az_catl, az_vi, az_vr, az_bo0, az_bo1, az_boi, true_and, and_true, if_true, if_false, ne_eq, not_true_eq_false, not_false_eq_true, List.set_cons_zero, List.set_cons_succ, Nat.reduceAdd, Nat.reduceLeDiff, Nat.reduceEqDiff, ↓reduceIte, reduceCtorEq, Nat.reduceSub, Nat.reduceMul, Int32.reduceLT, Int32.reduceLE, Int32.reduceAdd, Int32.reduceMul, Int32.reduceSub, az_ne10, az_ne20, az_ne30, Nat.zero_le]
  by_cases h : p = 0 <;> simp [h]
theorem r88 : az_C xs (d + 1) 88 [.ref 152] (az_S, I, J, c, z) K ↔ K (0, some (.int (I 152 0)), (az_S, I, J, c, z)) := by
  simp (maxDischargeDepth := 7) only [C88, th88, s88_0, s88_1, s88_4, g152_0, az_ex, az_bk0, az_bk1, az_bkx, az_cat0, az_cati, az_catr, az_catl, az_vi, az_vr, az_bo0, az_bo1, az_boi, true_and, and_true, if_true, if_false, ne_eq, not_true_eq_false, not_false_eq_true, List.set_cons_zero, List.set_cons_succ, Nat.reduceAdd, Nat.reduceLeDiff, Nat.reduceEqDiff, ↓reduceIte, reduceCtorEq, Nat.reduceSub, Nat.reduceMul, Int32.reduceLT, Int32.reduceLE, Int32.reduceAdd, Int32.reduceMul, Int32.reduceSub, az_ne10, az_ne20, az_ne30, Nat.zero_le]
end
