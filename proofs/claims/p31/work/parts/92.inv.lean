/-! what every state keeps to; from it what areKept asks -/
def sm (w : Nat → Bool) (g : Nat → Int32) : Nat → Int32
  | 0 => 0
  | n + 1 => sm w g n + (if w n = true then g n else 0)
theorem sm_s {w : Nat → Bool} {g : Nat → Int32} {n : Nat} : sm w g (n + 1) = sm w g n + (if w n = true then g n else 0) := rfl
theorem sm_cg {w w2 : Nat → Bool} {g g2 : Nat → Int32} : ∀ {n : Nat}, (∀ j, j < n → (if w j = true then g j else 0) = (if w2 j = true then g2 j else 0)) → sm w g n = sm w2 g2 n
  | 0, _ => rfl
  | n + 1, h => by rw [sm_s, sm_s, sm_cg (fun j hj => h j (by omega)), h n (by omega)]
theorem up_ne9 {f : Nat → Int32} {k j : Nat} {x : Int32} (h : j ≠ k) : upd f k x j = f j := by rw [upde]; exact if_neg h
theorem up_eq9 {f : Nat → Int32} {k : Nat} {x : Int32} : upd f k x k = x := by rw [upde]; exact if_pos rfl
theorem sm_out {w : Nat → Bool} {g : Nat → Int32} {i n : Nat} {v : Int32} (h : n ≤ i) : sm w (upd g i v) n = sm w g n := sm_cg fun j hj => by rw [up_ne9 (by omega)]
theorem sm_upd {w : Nat → Bool} {g : Nat → Int32} {i : Nat} {v : Int32} : ∀ {n : Nat}, i < n → sm w (upd g i v) n = sm w g n + (if w i = true then v - g i else 0)
  | 0, h => absurd h (Nat.not_lt_zero i)
  | n + 1, h => by
    rw [sm_s, sm_s]
    rcases Nat.lt_or_ge i n with q | q
    · rw [sm_upd q, up_ne9 (by omega)]
      grind
    · obtain rfl : i = n := by omega
      rw [sm_out (Nat.le_refl _), up_eq9]
      split <;> grind
theorem sm_fd {w : Nat → Bool} {g : Nat → Int32} {v : Int32} : ∀ n : Nat, fd (fun j s => if w j = true then s + g j else s) n 0 v = v + sm w g n := by
  intro n
  induction n with
  | zero => show v = v + 0; grind
  | succ n ih =>
    rw [fd_split (h := fun j s => if w j = true then s + g j else s) n 1 0 v, ih, Nat.zero_add, sm_s]
    show (if w n = true then v + sm w g n + g n else v + sm w g n) = _
    split <;> grind
/-- sums over a list of lots -/
def sl (g : Nat → Int32) (L : List Nat) : Int32 := L.foldl (fun v y => v + g y) 0
theorem sl_acc {g : Nat → Int32} : ∀ {L : List Nat} {v : Int32}, L.foldl (fun v y => v + g y) v = v + sl g L
  | [], v => by show v = v + 0; grind
  | y :: L, v => by
    show L.foldl (fun v y => v + g y) (v + g y) = v + L.foldl (fun v y => v + g y) (0 + g y)
    rw [sl_acc (L := L) (v := v + g y), sl_acc (L := L) (v := 0 + g y)]
    grind
theorem sl_cons {g : Nat → Int32} {y : Nat} {L : List Nat} : sl g (y :: L) = g y + sl g L := by
  show L.foldl (fun v y => v + g y) (0 + g y) = _
  rw [sl_acc]
  grind
theorem sl_app {g : Nat → Int32} : ∀ {A B : List Nat}, sl g (A ++ B) = sl g A + sl g B
  | [], B => by show sl g B = 0 + sl g B; grind
  | y :: A, B => by rw [List.cons_append, sl_cons, sl_cons, sl_app]; grind
theorem sl_rev {g : Nat → Int32} : ∀ {A : List Nat}, sl g A.reverse = sl g A
  | [] => rfl
  | y :: A => by rw [List.reverse_cons, sl_app, sl_rev, sl_cons, sl_cons]; show sl g A + (g y + sl g []) = _; show sl g A + (g y + 0) = _; grind
theorem sl_ins {lt : Nat → Nat → Bool} {g : Nat → Int32} {x : Nat} : ∀ {R : List Nat}, sl g (insR lt x R) = g x + sl g R
  | [] => by show sl g [x] = _; rw [sl_cons]
  | y :: R => by
    unfold insR
    split
    · rw [sl_cons, sl_ins, sl_cons]; grind
    · rw [sl_cons]
theorem sl_ord {lt : Nat → Nat → Bool} {P : Nat → Bool} {g : Nat → Int32} : ∀ n, sl g (ordR lt P n) = sm P g n := by
  intro n
  induction n with
  | zero => rfl
  | succ n ih =>
    unfold ordR at ih ⊢
    rw [fd_split (h := fun j R => if P j = true then insR lt j R else R) n 1 0 [], Nat.zero_add, sm_s, ← ih]
    show sl g (if P n = true then insR lt n _ else _) = _
    split
    · rw [sl_ins]; grind
    · grind
theorem sl_upd {g : Nat → Int32} {x : Nat} {v : Int32} : ∀ {L : List Nat}, x ∉ L → sl (upd g x v) L = sl g L
  | [], _ => rfl
  | y :: L, h => by
    rw [sl_cons, sl_cons, sl_upd (fun q => h (List.mem_cons_of_mem _ q)), up_ne9 (fun e => h (by rw [← e]; exact List.mem_cons_self))]
def lft (s : St) (n : Nat) (x : Int32) : Int32 := sm (fun j => decide (s 19 (s 29 j).toNatClampNeg = x)) (s 31) n
def ntt (s : St) (n : Nat) (x : Int32) : Int32 := sm (fun p => decide (s 19 (s 107 p).toNatClampNeg = x)) (s 109) n
def x1 (s : St) : Prop := ∀ ch, ch < 4 → 0 ≤ (s 7 ch).toInt ∧ (s 7 ch).toInt ≤ 100
def x2 (mo nl : Nat) (s : St) : Prop := ∀ j, j < nl → (∃ b : Nat, s 32 j = nI b ∧ b ≤ mo) ∧ (0 < (s 31 j).toInt → s 33 j = -1 ∨ (mo : Int) < (s 33 j).toInt)
def x3 (nl np : Nat) (s : St) : Prop := (∀ j, j < nl → s 24 (s 29 j).toNatClampNeg ≠ 2) ∧ ∀ p, p < np → s 24 (s 107 p).toNatClampNeg ≠ 2
def x4 (mo nc : Nat) (s : St) : Prop := ∀ k, k < nc → ∃ u : Nat, s 25 k = nI u ∧ u ≤ mo
def x5 (nl : Nat) (s : St) : Prop := ∀ j, j < nl → s 6 (s 19 (s 29 j).toNatClampNeg).toNatClampNeg ≠ 0 → s 31 j = 0
def x6 (np : Nat) (s : St) : Prop := ∀ p, p < np → ∃ m : Nat, s 108 p = nI m ∧ m ≤ 1000 ∧ (s 109 p).toInt ≤ m
def x7 (nl np : Nat) (s : St) : Prop := ∀ p, p < np → ∀ j, j < nl → s (112 + p) j ≠ 0 → s 29 j = s 107 p
def x8 (nl np : Nat) (s : St) : Prop := ∀ ch, ch < 4 → lft s nl (nI ch) + ntt s np (nI ch) + s 10 ch + s 11 ch + s 12 ch + s 13 ch + s 15 ch + s 16 ch + s 17 ch = s 8 ch + s 9 ch
def x9 (nl np : Nat) (s : St) : Prop := ∀ j, j < nl → (s 31 j).toInt + fb_si (fun p => (s (112 + p) j).toInt) np ≤ 1000
def PX (s : St) (mo nc nl np : Nat) : Prop := x1 s ∧ x2 mo nl s ∧ x3 nl np s ∧ x4 mo nc s ∧ x5 nl s ∧ x6 np s ∧ x7 nl np s ∧ x8 nl np s ∧ x9 nl np s
def PA (s : St) (mo nc nl ng np t : Nat) : Prop := PC s mo nc nl ng np t ∧ PX s mo nc nl np
def PI (s : St) (t : Nat) : Prop := ∃ mo nc nl ng np, PA s mo nc nl ng np t
section
variable {s : St} {mo nc nl ng np t : Nat}
theorem netS_nt (h : s 106 5 = nI np) (hn : np ≤ 40) (x : Int32) : netS s x = ntt s np x := by
  have e := sm_fd (w := fun p => decide (s 19 (s 107 p).toNatClampNeg = x)) (g := s 109) (v := 0) np
  unfold netS ntt
  have : npN s = np := by unfold npN; rw [h, nI_clamp (by omega)]
  rw [this]
  have e2 : fd (fnet (s 19) (s 107) (s 109) x) np 0 0 = fd (fun j v => if decide (s 19 (s 107 j).toNatClampNeg = x) = true then v + s 109 j else v) np 0 0 := fd_cg (n := np) (fun j v hj => by unfold fnet; by_cases h : s 19 (s 107 j).toNatClampNeg = x <;> simp [h]) np 0 0 (Nat.zero_add _)
  rw [e2, e]
  grind
theorem leftS_lft (h : s 28 7 = nI nl) (hn : nl ≤ 60) (ho : ∀ j, j < nl → az_in (s 30 j) 4 = true) (x : Int32) : leftS s x = lft s nl x := by
  have hsp := fnet_split (ch := s 19) (f := s 29) (o := s 30) (g := s 31) (x := x) nl 0 0 0 0 0 (fun j hj => ho j (by omega))
  rw [show (0 + 0 + 0 + 0 + 0 : Int32) = 0 from rfl] at hsp
  have : nlN s = nl := by unfold nlN; rw [h, nI_clamp (by omega)]
  unfold leftS clS lft
  rw [this, ← hsp]
  have e := sm_fd (w := fun j => decide (s 19 (s 29 j).toNatClampNeg = x)) (g := s 31) (v := 0) nl
  have e2 : fd (fnet (s 19) (s 29) (s 31) x) nl 0 0 = fd (fun j v => if decide (s 19 (s 29 j).toNatClampNeg = x) = true then v + s 31 j else v) nl 0 0 := fd_cg (n := nl) (fun j v hj => by unfold fnet; by_cases h : s 19 (s 29 j).toNatClampNeg = x <;> simp [h]) nl 0 0 (Nat.zero_add _)
  rw [e2, e]
  grind
theorem balS_sm (h : s 28 7 = nI nl) (hn : nl ≤ 60) (x : Int32) : balS s x = sm (fun j => decide (s 29 j = x)) (s 31) nl := by
  have : nlN s = nl := by unfold nlN; rw [h, nI_clamp (by omega)]
  unfold balS
  rw [this]
  have e := sm_fd (w := fun j => decide (s 29 j = x)) (g := s 31) (v := 0) nl
  have e2 : fd (fbal (s 29) (s 31) x) nl 0 0 = fd (fun j v => if decide (s 29 j = x) = true then v + s 31 j else v) nl 0 0 := fd_cg (n := nl) (fun j v hj => by unfold fbal; by_cases h : s 29 j = x <;> simp [h]) nl 0 0 (Nat.zero_add _)
  rw [e2, e]
  grind
/-- bounds of sums -/
theorem sm_bd {w : Nat → Bool} {g : Nat → Int32} {B : Nat} : ∀ {n : Nat}, (∀ j, j < n → 0 ≤ (g j).toInt ∧ (g j).toInt ≤ B) → n * B < 2 ^ 31 → 0 ≤ (sm w g n).toInt ∧ (sm w g n).toInt ≤ n * B
  | 0, _, _ => ⟨Int.le_refl 0, by show (0 : Int) ≤ _; omega⟩
  | n + 1, h, hb => by
    have e : (n + 1) * B = n * B + B := Nat.succ_mul n B
    obtain ⟨h1, h2⟩ := sm_bd (w := w) (n := n) (fun j hj => h j (by omega)) (by omega)
    have h3 := h n (by omega)
    rw [sm_s]
    have e2 : (((n + 1) * B : Nat) : Int) = ((n * B : Nat) : Int) + (B : Int) := by rw [e]; omega
    rw [show ((n + 1 : Nat) : Int) * (B : Int) = (((n + 1) * B : Nat) : Int) by push_cast; rfl, e2]
    rw [show (n : Int) * (B : Int) = ((n * B : Nat) : Int) by push_cast; rfl] at h2
    split
    · rw [Int32.toInt_add, Int.bmod_eq_of_le (by omega) (by omega)]
      omega
    · rw [Int32.toInt_add, show (0 : Int32).toInt = 0 from rfl, Int.bmod_eq_of_le (by omega) (by omega)]
      omega
theorem sm_le {w : Nat → Bool} {g h : Nat → Int32} {B : Nat} : ∀ {n : Nat}, (∀ j, j < n → 0 ≤ (g j).toInt ∧ (g j).toInt ≤ (h j).toInt ∧ (h j).toInt ≤ B) → n * B < 2 ^ 31 → (sm w g n).toInt ≤ (sm w h n).toInt
  | 0, _, _ => Int.le_refl _
  | n + 1, q, hb => by
    have e : (n + 1) * B = n * B + B := Nat.succ_mul n B
    have h0 := sm_le (w := w) (n := n) (fun j hj => q j (by omega)) (by omega)
    obtain ⟨a1, a2⟩ := sm_bd (w := w) (g := g) (B := B) (n := n) (fun j hj => by have := q j (by omega); omega) (by omega)
    obtain ⟨b1, b2⟩ := sm_bd (w := w) (g := h) (B := B) (n := n) (fun j hj => by have := q j (by omega); omega) (by omega)
    rw [show (n : Int) * (B : Int) = ((n * B : Nat) : Int) by push_cast; rfl] at a2 b2
    have h3 := q n (by omega)
    rw [sm_s, sm_s]
    split
    · rw [Int32.toInt_add, Int.bmod_eq_of_le (by omega) (by omega), Int32.toInt_add, Int.bmod_eq_of_le (by omega) (by omega)]
      omega
    · rw [Int32.toInt_add, show (0 : Int32).toInt = 0 from rfl, Int.bmod_eq_of_le (by omega) (by omega), Int32.toInt_add, show (0 : Int32).toInt = 0 from rfl, Int.bmod_eq_of_le (by omega) (by omega)]
      omega
theorem sm_zero {w : Nat → Bool} {g : Nat → Int32} : ∀ {n : Nat}, (∀ j, j < n → w j = true → g j = 0) → sm w g n = 0
  | 0, _ => rfl
  | n + 1, h => by
    rw [sm_s, sm_zero (fun j hj => h j (by omega))]
    by_cases q : w n = true
    · rw [if_pos q, h n (by omega) q]; rfl
    · rw [if_neg q]; rfl
end
