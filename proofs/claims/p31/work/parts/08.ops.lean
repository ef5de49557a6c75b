/-! each step of the small machine is a step of the machine: one row an instruction -/
def az_K (p : Program) (s : State) (m : MethodId) (args : Array Value) (meth : Method) (c : Code) (xs : az_X) (k : Nat) (D : va_G) (cy : Nat → ClassId) (A : Nat → Prop) (ad0 : Nat → Nat) : Prop :=
  p.tables.exec = Jvm.exec ∧ c.code = az_code k ∧ s.vm.findClass (az_R (az_own k)) = some m.cls ∧ c.maxLocals = az_ml k ∧ (∀ w ∈ az_gw, w.before args s = true) ∧ va_K D az_cl (az_tl cy) s ∧ (∀ q : Nat, s.heap.size ≤ q → A q) ∧ ((az_y k).name = "<init>" → meth.name = "<init>") ∧
  (va_X (ad0 az_scr) xs.1 xs.2 s s.heap ∧ ad0 az_scr < s.heap.size ∧ ¬ A (ad0 az_scr)) ∧ (Jvm.Cond.arrayOver (.array .int)).before args s = true
def az_kk (p : Program) (l : Launch) (e : Env) (R : Room) (s : State) (m : MethodId) (args : Array Value) (below : List Frame) (meth : Method) (c : Code) (Q : State → Prop) (D : va_G) (cy : Nat → ClassId) (A : Nat → Prop) (ad0 : Nat → Nat) (n0 c0 s0 : Nat) (q : az_Nx) : Prop :=
  ∀ (ad : Nat → Nat) (ls : Array Slot) (H : Heap) (locs : List Loc) (cells slots : Nat), az_at D cy A s.heap ad0 n0 c0 s0 ad q.2.1 ls q.2.2.1 q.2.2.2 H locs cells slots → W p l e R s m args below meth c H locs cells slots Q (F0 m q.1 ls (q.2.2.1.map (az_c ad)))
theorem az_at.st {D : va_G} {cy : Nat → ClassId} {A : Nat → Prop} {H0 : Heap} {ad0 : Nat → Nat} {n0 c0 s0 : Nat} {ad : Nat → Nat} {L : az_Ls} {ls : Array Slot} {st st' : List Value} {G : az_G} {H : Heap} {locs : List Loc} {cells slots : Nat}
    (h : az_at D cy A H0 ad0 n0 c0 s0 ad L ls st G H locs cells slots) (hs : ∀ v ∈ st', az_ok G.1.length v) : az_at D cy A H0 ad0 n0 c0 s0 ad L ls st' G H locs cells slots := ⟨⟨h.1.1, hs⟩, h.2⟩
theorem az_at.lo {D : va_G} {cy : Nat → ClassId} {A : Nat → Prop} {H0 : Heap} {ad0 : Nat → Nat} {n0 c0 s0 : Nat} {ad : Nat → Nat} {L L' : az_Ls} {ls ls' : Array Slot} {st st' : List Value} {G : az_G} {H : Heap} {locs : List Loc} {cells slots : Nat}
    (h : az_at D cy A H0 ad0 n0 c0 s0 ad L ls st G H locs cells slots) (hl : az_Lr ad G.1.length L' ls') (hs : ∀ v ∈ st', az_ok G.1.length v) : az_at D cy A H0 ad0 n0 c0 s0 ad L' ls' st' G H locs cells slots := ⟨⟨hl, hs⟩, h.2⟩
theorem az_sub1 {P : Value → Prop} {a v : Value} {r : List Value} (h : ∀ w ∈ a :: r, P w) (hv : P v) : ∀ w ∈ v :: r, P w := fun w hw => (List.mem_cons.mp hw).elim (fun e => e ▸ hv) (fun q => h w (List.mem_cons_of_mem _ q))
theorem az_tl1 {P : Value → Prop} {a : Value} {r : List Value} (h : ∀ w ∈ a :: r, P w) : ∀ w ∈ r, P w := fun w hw => h w (List.mem_cons_of_mem _ hw)
theorem az_cn1 {P : Value → Prop} {v : Value} {r : List Value} (hv : P v) (h : ∀ w ∈ r, P w) : ∀ w ∈ v :: r, P w := fun w hw => (List.mem_cons.mp hw).elim (fun e => e ▸ hv) (h w)
section
variable {p : Program} {l : Launch} {e : Env} {R : Room} {s : State} {m : MethodId} {args : Array Value} {below : List Frame} {meth : Method} {c : Code} {Q : State → Prop}
variable {xs : az_X} {k pc : Nat} {D : va_G} {cy : Nat → ClassId} {A : Nat → Prop} {ad0 : Nat → Nat} {n0 c0 s0 : Nat} {L : az_Ls} {st : List Value} {G : az_G} {q : az_Nx}
theorem az_o_b2 {f : Int32 → Int32 → Int32} {nx : Nat} (hs : az_b2 f nx L st G = some q)
    (row : ∀ (H : Heap) (locs : List Loc) (cells slots : Nat) (ls : Array Slot) (x y : Int32) (rest : List Value), W p l e R s m args below meth c H locs cells slots Q (F0 m nx ls (.int (f x y) :: rest)) → W p l e R s m args below meth c H locs cells slots Q (F0 m pc ls (.int y :: .int x :: rest)))
    (kk : az_kk p l e R s m args below meth c Q D cy A ad0 n0 c0 s0 q) : az_kk p l e R s m args below meth c Q D cy A ad0 n0 c0 s0 (pc, L, st, G) := by
  intro ad ls H locs cells slots hR
  unfold az_b2 at hs
  split at hs
  · cases hs
    exact row _ _ _ _ _ _ _ _ (kk ad ls H locs cells slots (hR.st (az_cn1 trivial (az_tl1 (az_tl1 hR.1.2)))))
  · cases hs
theorem az_o_dv {f : Int32 → Int32 → Int32} {nx : Nat} (hs : az_dv f nx L st G = some q)
    (row : ∀ (H : Heap) (locs : List Loc) (cells slots : Nat) (ls : Array Slot) (x y : Int32) (rest : List Value), ¬ y = 0 → W p l e R s m args below meth c H locs cells slots Q (F0 m nx ls (.int (f x y) :: rest)) → W p l e R s m args below meth c H locs cells slots Q (F0 m pc ls (.int y :: .int x :: rest)))
    (kk : az_kk p l e R s m args below meth c Q D cy A ad0 n0 c0 s0 q) : az_kk p l e R s m args below meth c Q D cy A ad0 n0 c0 s0 (pc, L, st, G) := by
  intro ad ls H locs cells slots hR
  unfold az_dv at hs
  split at hs
  · split at hs
    · cases hs
    · rename_i h0
      cases hs
      exact row _ _ _ _ _ _ _ _ h0 (kk ad ls H locs cells slots (hR.st (az_cn1 trivial (az_tl1 (az_tl1 hR.1.2)))))
  · cases hs
theorem az_o_pi {nx : Nat} {v : Int32}
    (row : ∀ (H : Heap) (locs : List Loc) (cells slots : Nat) (ls : Array Slot) (rest : List Value), W p l e R s m args below meth c H locs cells slots Q (F0 m nx ls (.int v :: rest)) → W p l e R s m args below meth c H locs cells slots Q (F0 m pc ls rest))
    (kk : az_kk p l e R s m args below meth c Q D cy A ad0 n0 c0 s0 (nx, L, .int v :: st, G)) : az_kk p l e R s m args below meth c Q D cy A ad0 n0 c0 s0 (pc, L, st, G) := by
  intro ad ls H locs cells slots hR
  exact row _ _ _ _ _ _ (kk ad ls H locs cells slots (hR.st (az_cn1 trivial hR.1.2)))
theorem az_o_pl {nx : Nat} {v : Int64}
    (row : ∀ (H : Heap) (locs : List Loc) (cells slots : Nat) (ls : Array Slot) (rest : List Value), W p l e R s m args below meth c H locs cells slots Q (F0 m nx ls (.long v :: rest)) → W p l e R s m args below meth c H locs cells slots Q (F0 m pc ls rest))
    (kk : az_kk p l e R s m args below meth c Q D cy A ad0 n0 c0 s0 (nx, L, .long v :: st, G)) : az_kk p l e R s m args below meth c Q D cy A ad0 n0 c0 s0 (pc, L, st, G) := by
  intro ad ls H locs cells slots hR
  exact row _ _ _ _ _ _ (kk ad ls H locs cells slots (hR.st (az_cn1 trivial hR.1.2)))
theorem az_o_ild {n nx : Nat} (hs : az_ild n nx L st G = some q)
    (row : ∀ (H : Heap) (locs : List Loc) (cells slots : Nat) (ls : Array Slot) (x : Int32) (rest : List Value), ls[n]? = some (.val (.int x)) → W p l e R s m args below meth c H locs cells slots Q (F0 m nx ls (.int x :: rest)) → W p l e R s m args below meth c H locs cells slots Q (F0 m pc ls rest))
    (kk : az_kk p l e R s m args below meth c Q D cy A ad0 n0 c0 s0 q) : az_kk p l e R s m args below meth c Q D cy A ad0 n0 c0 s0 (pc, L, st, G) := by
  intro ad ls H locs cells slots hR
  unfold az_ild at hs
  split at hs
  · rename_i x hx
    cases hs
    exact row _ _ _ _ _ _ _ (hR.1.1.2.2 _ _ hx).2.2 (kk ad ls H locs cells slots (hR.st (az_cn1 trivial hR.1.2)))
  · cases hs
theorem az_o_ald {n nx : Nat} (hs : az_ald n nx L st G = some q)
    (row : ∀ (H : Heap) (locs : List Loc) (cells slots : Nat) (ls : Array Slot) (x : Nat) (rest : List Value), ls[n]? = some (.val (.ref x)) → W p l e R s m args below meth c H locs cells slots Q (F0 m nx ls (.ref x :: rest)) → W p l e R s m args below meth c H locs cells slots Q (F0 m pc ls rest))
    (kk : az_kk p l e R s m args below meth c Q D cy A ad0 n0 c0 s0 q) : az_kk p l e R s m args below meth c Q D cy A ad0 n0 c0 s0 (pc, L, st, G) := by
  intro ad ls H locs cells slots hR
  unfold az_ald at hs
  split at hs
  · rename_i x hx
    cases hs
    have h9 := hR.1.1.2.2 _ _ hx
    exact row _ _ _ _ _ _ _ h9.2.2 (kk ad ls H locs cells slots (hR.st (az_cn1 h9.2.1 hR.1.2)))
  · cases hs
theorem az_o_ist {n nx : Nat} (hs : az_ist n nx L st G = some q)
    (row : ∀ (H : Heap) (locs : List Loc) (cells slots : Nat) (ls : Array Slot) (x : Int32) (rest : List Value) (nL : Nat) (lv lv' : List (Nat × Value)), lv_has ls nL lv → n < nL → (n, Value.int x) :: lv.filter (fun q => !(q.1 == n) && !(q.1 + 1 == n && q.2.category == 2)) = lv' → (∀ ls' : Array Slot, lv_has ls' nL lv' → W p l e R s m args below meth c H locs cells slots Q (F0 m nx ls' rest)) → W p l e R s m args below meth c H locs cells slots Q (F0 m pc ls (.int x :: rest)))
    (kk : az_kk p l e R s m args below meth c Q D cy A ad0 n0 c0 s0 q) : az_kk p l e R s m args below meth c Q D cy A ad0 n0 c0 s0 (pc, L, st, G) := by
  intro ad ls H locs cells slots hR
  unfold az_ist at hs
  split at hs
  · split at hs
    · rename_i hn
      cases hs
      exact row _ _ _ _ _ _ _ _ _ _ (az_pr_has hR.1.1) hn rfl (fun ls' hl => kk ad ls' H locs cells slots (hR.lo (az_Lr_set (v := .int _) hR.1.1 rfl trivial hl) (az_tl1 hR.1.2)))
    · cases hs
  · cases hs
theorem az_o_ast {n nx : Nat} (hs : az_ast n nx L st G = some q)
    (row : ∀ (H : Heap) (locs : List Loc) (cells slots : Nat) (ls : Array Slot) (x : Nat) (rest : List Value) (nL : Nat) (lv lv' : List (Nat × Value)), lv_has ls nL lv → n < nL → (n, Value.ref x) :: lv.filter (fun q => !(q.1 == n) && !(q.1 + 1 == n && q.2.category == 2)) = lv' → (∀ ls' : Array Slot, lv_has ls' nL lv' → W p l e R s m args below meth c H locs cells slots Q (F0 m nx ls' rest)) → W p l e R s m args below meth c H locs cells slots Q (F0 m pc ls (.ref x :: rest)))
    (kk : az_kk p l e R s m args below meth c Q D cy A ad0 n0 c0 s0 q) : az_kk p l e R s m args below meth c Q D cy A ad0 n0 c0 s0 (pc, L, st, G) := by
  intro ad ls H locs cells slots hR
  unfold az_ast at hs
  split at hs
  · split at hs
    · rename_i x r hn
      cases hs
      exact row _ _ _ _ _ _ _ _ _ _ (az_pr_has hR.1.1) hn rfl (fun ls' hl => kk ad ls' H locs cells slots (hR.lo (az_Lr_set (v := .ref _) hR.1.1 rfl (hR.1.2 _ List.mem_cons_self) hl) (az_tl1 hR.1.2)))
    · cases hs
  · cases hs
theorem az_o_inc {n nx : Nat} {v : Int} (hs : az_inc n v nx L st G = some q)
    (row : ∀ (H : Heap) (locs : List Loc) (cells slots : Nat) (ls : Array Slot) (x : Int32) (rest : List Value) (nL j : Nat) (lv lv' : List (Nat × Value)), lv_has ls nL lv → lv[j]? = some (n, .int x) → n < nL → (n, Value.int (x + Int32.ofInt v)) :: lv.filter (fun q => !(q.1 == n) && !(q.1 + 1 == n && q.2.category == 2)) = lv' → (∀ ls' : Array Slot, lv_has ls' nL lv' → W p l e R s m args below meth c H locs cells slots Q (F0 m nx ls' rest)) → W p l e R s m args below meth c H locs cells slots Q (F0 m pc ls rest))
    (kk : az_kk p l e R s m args below meth c Q D cy A ad0 n0 c0 s0 q) : az_kk p l e R s m args below meth c Q D cy A ad0 n0 c0 s0 (pc, L, st, G) := by
  intro ad ls H locs cells slots hR
  unfold az_inc at hs
  split at hs
  · rename_i x hx
    cases hs
    obtain ⟨j, hj⟩ := List.getElem?_of_mem (az_pr_mem.mpr ⟨.int x, hx, rfl⟩ : (n, az_c ad (.int x)) ∈ az_pr ad L)
    exact row _ _ _ _ _ _ _ _ j _ _ (az_pr_has hR.1.1) hj (List.getElem?_eq_some_iff.mp hx).1 rfl (fun ls' hl => kk ad ls' H locs cells slots (hR.lo (az_Lr_set (v := .int _) hR.1.1 rfl trivial hl) hR.1.2))
  · cases hs
theorem az_o_br {b : Bool} {off : Int} {nx : Nat} {ad : Nat → Nat} {ls : Array Slot} {H : Heap} {locs : List Loc} {cells slots : Nat} {g : JFrame} (hs : az_br b off pc nx L st G = some q)
    (hR : az_at D cy A s.heap ad0 n0 c0 s0 ad L ls st G H locs cells slots)
    (row : ∀ tgt : Nat, (pc : Int) + off = (tgt : Int) → (b = true → W p l e R s m args below meth c H locs cells slots Q (F0 m tgt ls (st.map (az_c ad)))) → (b = false → W p l e R s m args below meth c H locs cells slots Q (F0 m nx ls (st.map (az_c ad)))) → W p l e R s m args below meth c H locs cells slots Q g)
    (kk : az_kk p l e R s m args below meth c Q D cy A ad0 n0 c0 s0 q) : W p l e R s m args below meth c H locs cells slots Q g := by
  unfold az_br at hs
  split at hs
  · rename_i h0
    split at hs
    · rename_i hb
      cases hs
      exact row _ (by rw [Int.toNat_of_nonneg h0]) (fun _ => kk ad ls H locs cells slots hR) (fun h => by rw [hb] at h; cases h)
    · rename_i hb
      cases hs
      exact row _ (by rw [Int.toNat_of_nonneg h0]) (fun h => absurd h hb) (fun _ => kk ad ls H locs cells slots hR)
  · cases hs
theorem az_o_if1 {f : Int32 → Bool} {off : Int} {nx : Nat} (hs : az_if1 f off pc nx L st G = some q)
    (row : ∀ (H : Heap) (locs : List Loc) (cells slots : Nat) (ls : Array Slot) (x : Int32) (rest : List Value) (tgt : Nat), (pc : Int) + off = (tgt : Int) → (f x = true → W p l e R s m args below meth c H locs cells slots Q (F0 m tgt ls rest)) → (f x = false → W p l e R s m args below meth c H locs cells slots Q (F0 m nx ls rest)) → W p l e R s m args below meth c H locs cells slots Q (F0 m pc ls (.int x :: rest)))
    (kk : az_kk p l e R s m args below meth c Q D cy A ad0 n0 c0 s0 q) : az_kk p l e R s m args below meth c Q D cy A ad0 n0 c0 s0 (pc, L, st, G) := by
  intro ad ls H locs cells slots hR
  unfold az_if1 at hs
  split at hs
  · exact az_o_br hs (hR.st (az_tl1 hR.1.2)) (fun tgt ht w1 w2 => row H locs cells slots ls _ _ tgt ht w1 w2) kk
  · cases hs
theorem az_o_if2 {f : Int32 → Int32 → Bool} {off : Int} {nx : Nat} (hs : az_if2 f off pc nx L st G = some q)
    (row : ∀ (H : Heap) (locs : List Loc) (cells slots : Nat) (ls : Array Slot) (x y : Int32) (rest : List Value) (tgt : Nat), (pc : Int) + off = (tgt : Int) → (f x y = true → W p l e R s m args below meth c H locs cells slots Q (F0 m tgt ls rest)) → (f x y = false → W p l e R s m args below meth c H locs cells slots Q (F0 m nx ls rest)) → W p l e R s m args below meth c H locs cells slots Q (F0 m pc ls (.int y :: .int x :: rest)))
    (kk : az_kk p l e R s m args below meth c Q D cy A ad0 n0 c0 s0 q) : az_kk p l e R s m args below meth c Q D cy A ad0 n0 c0 s0 (pc, L, st, G) := by
  intro ad ls H locs cells slots hR
  unfold az_if2 at hs
  split at hs
  · exact az_o_br hs (hR.st (az_tl1 (az_tl1 hR.1.2))) (fun tgt ht w1 w2 => row H locs cells slots ls _ _ _ tgt ht w1 w2) kk
  · cases hs
end
