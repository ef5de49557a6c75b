/-! what each call answers and makes of the state, as functions -/
def nlN (s : St) : Nat := (s 28 7).toNatClampNeg
def ncN (s : St) : Nat := (s 18 9).toNatClampNeg
def ngN (s : St) : Nat := (s 36 7).toNatClampNeg
def npN (s : St) : Nat := (s 106 5).toNatClampNeg
def addLot (s : St) (cd og co bg en : Int32) : St := az_up (az_up (az_up (az_up (az_up (az_up s 28 7 (nI (nlN s + 1))) 29 (nlN s) cd) 30 (nlN s) og) 31 (nlN s) co) 32 (nlN s) bg) 33 (nlN s) en
def addB (s : St) (cd co : Int32) : St := az_up (addLot s cd 0 co (s 0 6) (if s 21 cd.toNatClampNeg = 0 then -1 else s 0 6 + s 21 cd.toNatClampNeg)) 8 (s 19 cd.toNatClampNeg).toNatClampNeg (s 8 (s 19 cd.toNatClampNeg).toNatClampNeg + co)
def addG (s : St) (cd og co mo : Int32) : St := az_up (addLot s cd og co (s 0 6) (s 0 6 + mo)) 9 (s 19 cd.toNatClampNeg).toNatClampNeg (s 9 (s 19 cd.toNatClampNeg).toNatClampNeg + co)
def newC (s : St) (a b : Int32) : St := az_up (az_up (az_up (az_up (az_up (az_up (az_up (az_up s 18 9 (nI (ncN s + 1))) 19 (ncN s) a) 20 (ncN s) b) 21 (ncN s) (s 2 b.toNatClampNeg)) 22 (ncN s) (s 3 b.toNatClampNeg)) 23 (ncN s) (s 4 b.toNatClampNeg)) 24 (ncN s) 0) 25 (ncN s) (s 0 6)
def balS (s : St) (a : Int32) : Int32 := fd (fbal (s 29) (s 31) a) (nlN s) 0 0
def f_law (s : St) (a b e f : Int32) : Int32 × St := if az_in a 3 = true ∧ (b = 0 ∨ 6 ≤ b ∧ b ≤ 60) ∧ (0 ≤ e ∧ e ≤ 9) ∧ (0 ≤ f ∧ f ≤ 100) then (s 2 a.toNatClampNeg, az_up (az_up (az_up s 2 a.toNatClampNeg b) 3 a.toNatClampNeg e) 4 a.toNatClampNeg f) else (bad, s)
def f_rate (s : St) (a b : Int32) : Int32 × St := if az_in a 4 = true ∧ (0 ≤ b ∧ b ≤ 100) then (s 7 a.toNatClampNeg, az_up s 7 a.toNatClampNeg b) else (bad, s)
def f_sell (s : St) (a b e : Int32) : Int32 × St := if az_in a 4 = true ∧ az_in b 3 = true ∧ (1 ≤ e ∧ e ≤ 500) ∧ s 6 a.toNatClampNeg = 0 ∧ ncN s < 12 ∧ nlN s < 60 then (s 18 9, addB (newC s a b) (s 18 9) e) else (bad, s)
def f_load (s : St) (a b e : Int32) : Int32 × St := if az_in a (ncN s) = true ∧ (1 ≤ b ∧ b ≤ 500) ∧ s 24 a.toNatClampNeg ≠ 2 ∧ s 6 (s 19 a.toNatClampNeg).toNatClampNeg = 0 ∧ nlN s < 60 then (balS (if e = 0 then addB s a b else addG s a 3 b 6) a, az_up (if e = 0 then addB s a b else addG s a 3 b 6) 25 a.toNatClampNeg (s 0 6)) else (bad, s)
def f_camp (s : St) (a b e : Int32) : Int32 × St := if (if a = 0 then 1 ≤ b ∧ b ≤ 200 else 1 ≤ b ∧ b ≤ 90) ∧ (0 ≤ e ∧ e ≤ 500) ∧ ngN s < 6 then (s 36 7, az_up (az_up (az_up (az_up s 36 7 (nI (ngN s + 1))) 37 (ngN s) (if a = 0 then 0 else 1)) 38 (ngN s) b) 39 (ngN s) e) else (bad, s)
def barB (s : St) (a b : Int32) (v : Bool) : St := az_up (az_up s 40 a.toNatClampNeg (nI (sbb v (s 40 a.toNatClampNeg).toNatClampNeg b.toNatClampNeg))) 40 b.toNatClampNeg (nI (sbb v (s 40 b.toNatClampNeg).toNatClampNeg a.toNatClampNeg))
def f_bar (s : St) (a b e : Int32) : Int32 × St := if az_in a (ngN s) = true ∧ az_in b (ngN s) = true ∧ a ≠ b then (if (s 40 a.toNatClampNeg).toNatClampNeg.testBit b.toNatClampNeg = true then 1 else 0, barB s a b (if e = 0 then false else true)) else (bad, s)
def lowN (s : St) (p : Nat) : Nat := LF (apI s) (lsI s) (bmI s) (ngN s) 6 p 0
noncomputable def fewN (s : St) (p : Nat) : Nat := Classical.epsilon fun sz => ∃ lo, LX (fun u q => u < 2 ^ ngN s ∧ GP (apI s) (lsI s) (bmI s) (ngN s) p u q) lo sz
def f_best (s : St) (a : Int32) : Int32 × St := if 1 ≤ a ∧ a ≤ 1000 then (nI (lowN s a.toNatClampNeg), s) else (bad, s)
noncomputable def f_few (s : St) (a : Int32) : Int32 × St := if 1 ≤ a ∧ a ≤ 1000 then (nI (fewN s a.toNatClampNeg), s) else (bad, s)
def rsn (s : St) (a cost : Int32) : Int32 := if s 24 a.toNatClampNeg = 2 then 1 else if s 24 a.toNatClampNeg = 1 then 2 else if s 6 (s 19 a.toNatClampNeg).toNatClampNeg = 0 then (if balS s a < cost then 4 else if npN s < 40 then 0 else 5) else 3
def ltS (s : St) : Nat → Nat → Bool := ltb (fun j => az_nv (s 33 j)) (s 30)
def tkS (s : St) (a cost : Int32) : (Nat → Int32) × (Nat → Int32) × Int32 := tk (ordR (ltS s) (pOn (s 29) (s 31) a) (nlN s)).reverse (s 31, fun _ => 0, cost)
def payS (s : St) (a cost : Int32) : St := az_set (az_up (az_up (az_up (az_up (az_up (az_up (az_set s 31 (tkS s a cost).1) 25 a.toNatClampNeg (s 0 6)) 106 5 (nI (npN s + 1))) 107 (npN s) a) 108 (npN s) cost) 109 (npN s) cost) 110 (npN s) (s 0 6)) (112 + npN s) (fun j => if j < 60 then (tkS s a cost).2.1 j else s (112 + npN s) j)
def f_pay (s : St) (a b : Int32) : Int32 × St := if az_in a (ncN s) = true ∧ (1 ≤ b ∧ b ≤ 1000) ∧ rsn s a (nI (lowN s b.toNatClampNeg)) = 0 then (s 106 5, payS s a (nI (lowN s b.toNatClampNeg))) else (bad, s)
def f_why (s : St) (a b : Int32) : Int32 × St := if az_in a (ncN s) = true ∧ (1 ≤ b ∧ b ≤ 1000) then (rsn s a (nI (lowN s b.toNatClampNeg)), s) else (bad, s)
def bkD (s : St) (p : Nat) (b : Int32) : Nat → Int32 := (gb (ordR (ltS s) (pOp (s (112 + p))) (nlN s)) (s (112 + p)) (fun _ => 0, b)).1
def bkL (s : St) (p : Nat) (b : Int32) : Int32 := fd (flt (exI s (s 0 6)) (bkD s p b)) (nlN s) 0 0
def bkS (s : St) (p : Nat) (b : Int32) : St := az_set (az_set (az_set s (112 + p) (fun k => if k < 60 then s (112 + p) k - bkD s p b k else s (112 + p) k)) 109 (upd (s 109) p (fd (fun j v => v - bkD s p b j) 60 0 (s 109 p)))) 31 (fd (fub (exI s (s 0 6)) (bkD s p b)) (nlN s) 0 (s 31))
def f_back (s : St) (a b : Int32) : Int32 × St := if az_in a (npN s) = true ∧ (1 ≤ b ∧ b ≤ s 109 a.toNatClampNeg) ∧ s 6 (s 19 (s 107 a.toNatClampNeg).toNatClampNeg).toNatClampNeg = 0 ∧ (0 < bkL s a.toNatClampNeg b → nlN s < 60) then (bkS s a.toNatClampNeg b 109 a.toNatClampNeg, if 0 < bkL s a.toNatClampNeg b then addLot (bkS s a.toNatClampNeg b) (s 107 a.toNatClampNeg) 1 (bkL s a.toNatClampNeg b) (s 0 6) (s 0 6 + 3) else bkS s a.toNatClampNeg b) else (bad, s)
def mkS (s : St) (a : Int32) (r : Bool) : Int32 := fd (fmk (s 107) (s 110) (s 109) (s 0 6) a r) (npN s) 0 0
def f_conv (s : St) (a b : Int32) : Int32 × St := if az_in a (ncN s) = true ∧ (5 ≤ b ∧ b ≤ 500) ∧ b - b / 5 * 5 = 0 ∧ s 24 a.toNatClampNeg = 0 ∧ s 6 (s 19 a.toNatClampNeg).toNatClampNeg = 0 ∧ b ≤ mkS s a true - s 27 a.toNatClampNeg ∧ nlN s < 60 then (b / 5, az_up (addG (az_up s 27 a.toNatClampNeg (s 27 a.toNatClampNeg + b)) a 2 (b / 5) 12) 25 a.toNatClampNeg (s 0 6)) else (bad, s)
def joinS (s : St) (a b : Int32) : St := az_up (az_up (az_up (az_up (az_up (az_set (az_set s 29 (fd (fmva b a) (nlN s) 0 (s 29))) 107 (fd (fmva b a) (npN s) 0 (s 107))) 27 a.toNatClampNeg (s 27 a.toNatClampNeg + s 27 b.toNatClampNeg)) 27 b.toNatClampNeg 0) 24 b.toNatClampNeg 2) 26 b.toNatClampNeg 0) 25 a.toNatClampNeg (s 0 6)
def f_join (s : St) (a b : Int32) : Int32 × St := if az_in a (ncN s) = true ∧ az_in b (ncN s) = true ∧ a ≠ b ∧ s 24 a.toNatClampNeg = 0 ∧ s 24 b.toNatClampNeg = 0 ∧ s 19 a.toNatClampNeg = s 19 b.toNatClampNeg ∧ s 6 (s 19 b.toNatClampNeg).toNatClampNeg = 0 then (balS (joinS s a b) a, joinS s a b) else (bad, s)
def numS (s : St) (a : Int32) : Int32 := 3571 * a + 977 * s 19 a.toNatClampNeg + 131 * s 20 a.toNatClampNeg + 2718
def nuS (x : Int32) : Int32 := x - x / 10000 * 10000
def codS (n : Int32) : Int32 := 10 * n + ((n / 1000 + 3 * (n / 100 - n / 100 / 10 * 10) + 7 * (n / 10 - n / 10 / 10 * 10) + 9 * (n - n / 10 * 10)) - (n / 1000 + 3 * (n / 100 - n / 100 / 10 * 10) + 7 * (n / 10 - n / 10 / 10 * 10) + 9 * (n - n / 10 * 10)) / 10 * 10)
def codeS (s : St) (a : Int32) : Int32 := codS (nuS (numS s a))
def missS (s : St) (a : Int32) : St := if 3 ≤ s 26 a.toNatClampNeg + 1 then az_up (az_up s 24 a.toNatClampNeg 1) 26 a.toNatClampNeg 0 else az_up s 26 a.toNatClampNeg (s 26 a.toNatClampNeg + 1)
def f_att (s : St) (a b : Int32) : Int32 × St := if az_in a (ncN s) = true ∧ (0 ≤ b ∧ b ≤ 99999) ∧ s 24 a.toNatClampNeg = 0 then (if b = codeS s a then (1, az_up s 26 a.toNatClampNeg 0) else (0, missS s a)) else (bad, s)
def f_free (s : St) (a : Int32) : Int32 × St := if az_in a (ncN s) = true then (if s 24 a.toNatClampNeg = 1 then (1, az_up s 24 a.toNatClampNeg 0) else (0, s)) else (bad, s)
abbrev P4 : Type := (Nat → Int32) × (Nat → Int32) × (Nat → Int32) × (Nat → Int32)
def passA (s : St) : St := az_set (az_up s 0 6 (s 0 6 + 1)) 26 (fun j => if j < 12 then 0 else s 26 j)
def dueF (s : St) (q : Nat) : Int32 := s (15 + q / 4) (q % 4)
def passR (s : St) : P4 := fd (fun cd r => pFe (passA s) (s 0 6 + 1) (nlN s) cd (fd (pEs (passA s) (s 0 6 + 1) cd) (nlN s) 0 r)) (ncN s) 0 (s 31, dueF s, s 10, s 11)
def putR (s : St) (r : P4) : St := az_set (az_set (az_set (az_set (az_set (az_set s 31 r.1) 15 (fun q => r.2.1 q)) 16 (fun q => r.2.1 (4 + q))) 17 (fun q => r.2.1 (8 + q))) 10 r.2.2.1) 11 r.2.2.2
def f_pass (s : St) : Int32 × St := if s 0 6 < 240 then (s 0 6 + 1, kr (putR (passA s) (passR s))) else (bad, s)
abbrev P3 : Type := (Nat → Int32) × Int32 × Int32
def payO (s : St) (x og est : Int32) (r : P3) : P3 := fd (fdp (s 19) (s 29) (s 30) est (fd (fclm (s 19) (s 29) (s 30) r.1 x og) (nlN s) 0 0) x og) (nlN s) 0 (r.1, r.2.1, 0)
def die0 (s : St) (a b : Int32) : P3 := payO s a 0 b (s 31, s 13 a.toNatClampNeg, 0)
def die1 (s : St) (a b : Int32) : P3 := payO s a 1 (b - (die0 s a b).2.2) (die0 s a b)
def die2 (s : St) (a b : Int32) : P3 := payO s a 2 (b - (die0 s a b).2.2 - (die1 s a b).2.2) (die1 s a b)
def die3 (s : St) (a b : Int32) : P3 := payO s a 3 (b - (die0 s a b).2.2 - (die1 s a b).2.2 - (die2 s a b).2.2) (die2 s a b)
def f_die (s : St) (a b : Int32) : Int32 × St := if az_in a 4 = true ∧ (0 ≤ b ∧ b ≤ 9999) ∧ s 6 a.toNatClampNeg = 0 then (b - (die0 s a b).2.2 - (die1 s a b).2.2 - (die2 s a b).2.2 - (die3 s a b).2.2, dS (az_up s 6 a.toNatClampNeg 1) a.toNatClampNeg (die3 s a b).1 (die3 s a b).2.1 (s 12 a.toNatClampNeg + (die0 s a b).2.2 + (die1 s a b).2.2 + (die2 s a b).2.2 + (die3 s a b).2.2)) else (bad, s)
def f_ofCard (s : St) (a b : Int32) : Int32 × St := (if az_in a (ncN s) = true ∧ (0 ≤ b ∧ b ≤ 7) then (if b = 0 then s 24 a.toNatClampNeg else if b = 1 then balS s a else if b = 2 then s 25 a.toNatClampNeg else if b = 3 then s 26 a.toNatClampNeg else if b = 4 then codeS s a else if b = 5 then mkS s a true - s 27 a.toNatClampNeg else if b = 6 then mkS s a false else s 21 a.toNatClampNeg) else bad, s)
def f_ofLot (s : St) (a b : Int32) : Int32 × St := (if az_in a (nlN s) = true ∧ (0 ≤ b ∧ b ≤ 4) then (if b = 0 then s 29 a.toNatClampNeg else if b = 1 then s 30 a.toNatClampNeg else if b = 2 then s 31 a.toNatClampNeg else if b = 3 then s 33 a.toNatClampNeg else s 32 a.toNatClampNeg) else bad, s)
def ordS (s : St) (a : Int32) : List Nat := (ordR (ltS s) (pOn (s 29) (s 31) a) (nlN s)).reverse
def f_order (s : St) (a b : Int32) : Int32 × St := (if az_in a (ncN s) = true ∧ 0 ≤ b then (if b < nI (ordS s a).length then nI ((ordS s a).getD b.toNatClampNeg 0) else -1) else bad, s)
def f_ofPay (s : St) (a b : Int32) : Int32 × St := (if az_in a (npN s) = true ∧ (0 ≤ b ∧ b ≤ 4) then (if b = 0 then s 107 a.toNatClampNeg else if b = 1 then s 108 a.toNatClampNeg else if b = 2 then s 109 a.toNatClampNeg else if b = 3 then s 110 a.toNatClampNeg else s 109 a.toNatClampNeg / 10) else bad, s)
def f_taken (s : St) (a b : Int32) : Int32 × St := (if az_in a (npN s) = true ∧ az_in b (nlN s) = true then s (112 + a.toNatClampNeg) b.toNatClampNeg else bad, s)
def clS (s : St) (x og : Int32) : Int32 := fd (fclm (s 19) (s 29) (s 30) (s 31) x og) (nlN s) 0 0
def leftS (s : St) (x : Int32) : Int32 := 0 + clS s x 0 + clS s x 1 + clS s x 2 + clS s x 3
def netS (s : St) (x : Int32) : Int32 := fd (fnet (s 19) (s 107) (s 109) x) (npN s) 0 0
def f_ofChain (s : St) (a b : Int32) : Int32 × St := (if az_in a 4 = true ∧ (0 ≤ b ∧ b ≤ 8) then (if b = 0 then s 8 a.toNatClampNeg else if b = 1 then s 9 a.toNatClampNeg else if b = 2 then leftS s a else if b = 3 then netS s a else if b = 4 then s 10 a.toNatClampNeg else if b = 5 then s 11 a.toNatClampNeg else if b = 6 then s 12 a.toNatClampNeg else if b = 7 then s 13 a.toNatClampNeg else s 6 a.toNatClampNeg) else bad, s)
def f_owed (s : St) (a b : Int32) : Int32 × St := (if az_in a 3 = true ∧ az_in b 4 = true then s (15 + a.toNatClampNeg) b.toNatClampNeg else bad, s)
def anewS (s : St) (a : Nat) (x : Int32) : Int32 := s 8 a + s 9 a - s 10 a - s 11 a - s 12 a - s 13 a - s 15 a - s 16 a - s 17 a - netS s x
def f_anew (s : St) (a : Int32) : Int32 × St := (if az_in a 4 = true then anewS s a.toNatClampNeg a else bad, s)
def f_booked (s : St) (a : Int32) : Int32 × St := (if az_in a 4 = true then fd (fbk (s 19) (s 29) (s 30) (s 31) (s 32) (s 33) (s 0 6) (s 7 a.toNatClampNeg) a) (nlN s) 0 0 else bad, s)
/-- what a call's end must meet -/
def mK (r : Int32 × St) (I : St) (J : Nat → Nat → Int64) (c z : Nat) (K : az_O → Prop) : Prop := (∀ I', kr I' = r.2 → Fr I I' → K (0, some (.int r.1), (az_S, I', J, c, z))) ∧ (r.1 = bad → ∀ I' n, (n = 1 ∨ n = 2 ∨ n = 3) → kr I' = r.2 → Fr I I' → K (n, none, (az_S, I', J, c + 1, z + 6)))
theorem mK_bad {s I : St} {J : Nat → Nat → Int64} {c z n : Nat} {K : az_O → Prop} (h : mK (bad, s) I J c z K) (hs : kr I = s) (hn : n = 1 ∨ n = 2 ∨ n = 3) : K (n, none, (az_S, I, J, c + 1, z + 6)) := h.2 rfl I n hn hs Fr_rf
/-- the same, for the calls whose answer is a truth value -/
def mK2 (r : Int32 × St) (I : St) (J : Nat → Nat → Int64) (c z : Nat) (K : az_O → Prop) : Prop := ((r.1 = 0 ∨ r.1 = 1) → ∀ I', kr I' = r.2 → Fr I I' → K (0, some (.int r.1), (az_S, I', J, c, z))) ∧ (r.1 = bad → ∀ I' n, (n = 1 ∨ n = 2 ∨ n = 3) → kr I' = r.2 → Fr I I' → K (n, none, (az_S, I', J, c + 1, z + 6)))
theorem mK2_bad {s I : St} {J : Nat → Nat → Int64} {c z n : Nat} {K : az_O → Prop} (h : mK2 (bad, s) I J c z K) (hs : kr I = s) (hn : n = 1 ∨ n = 2 ∨ n = 3) : K (n, none, (az_S, I, J, c + 1, z + 6)) := h.2 rfl I n hn hs Fr_rf
/-- the same, for a call whose arguments may be known to be right -/
def mKv (v : Prop) (r : Int32 × St) (I : St) (J : Nat → Nat → Int64) (c z : Nat) (K : az_O → Prop) : Prop := (∀ I', kr I' = r.2 → Fr I I' → K (0, some (.int r.1), (az_S, I', J, c, z))) ∧ (¬ v → r.1 = bad → ∀ I' n, (n = 1 ∨ n = 2 ∨ n = 3) → kr I' = r.2 → Fr I I' → K (n, none, (az_S, I', J, c + 1, z + 6)))
theorem mKv_bad {v : Prop} {s I : St} {J : Nat → Nat → Int64} {c z n : Nat} {K : az_O → Prop} (h : mKv v (bad, s) I J c z K) (hv : ¬ v) (hs : kr I = s) (hn : n = 1 ∨ n = 2 ∨ n = 3) : K (n, none, (az_S, I, J, c + 1, z + 6)) := h.2 hv rfl I n hn hs Fr_rf
