/-! rows for running the small machine: one iff an instruction -/
def az_W (xs : az_X) (d k pc : Nat) (L : az_Ls) (st : List Value) (G : az_G) (K : az_O → Prop) : Prop := ∃ (f : Nat) (o : az_O), az_run xs f d k pc L st G = some o ∧ K o
def az_C (xs : az_X) (d m : Nat) (as : List Value) (G : az_G) (K : az_O → Prop) : Prop := match d with
  | 0 => False
  | d + 1 => az_W xs d m 0 (az_lay m as) [] G K
theorem az_run_up {xs : az_X} : ∀ (f d k pc : Nat) (L : az_Ls) (st : List Value) (G : az_G) (o : az_O), az_run xs f d k pc L st G = some o → az_run xs (f + 1) d k pc L st G = some o := by
  intro f
  induction f with
  | zero => intro d k pc L st G o h; cases h
  | succ f ih =>
    intro d k pc L st G o h
    rw [az_run] at h ⊢
    split at h
    · rename_i i len hd
      split at h
      · rename_i hil
        rw [if_pos hil]
        split at h
        · rename_i o9 h9
          exact h
        · rename_i h9
          split at h
          · rename_i mm as rest hc
            split at h
            · cases h
            · rename_i d
              split at h
              · cases h
              · rename_i o1 h1
                have k1 := ih _ _ _ _ _ _ _ h1
                (try dsimp only)
                rw [k1]
                dsimp only
                split at h
                · rename_i h0
                  rw [if_pos h0]
                  exact ih _ _ _ _ _ _ _ h
                · rename_i h0
                  rw [if_neg h0]
                  split at h
                  · exact ih _ _ _ _ _ _ _ h
                  · exact h
          · split at h
            · rename_i q hq
              (try dsimp only)
              exact ih _ _ _ _ _ _ _ h
            · cases h
      · cases h
    · cases h
theorem az_run_le {xs : az_X} {f g d k pc : Nat} {L : az_Ls} {st : List Value} {G : az_G} {o : az_O} (hfg : f ≤ g) (h : az_run xs f d k pc L st G = some o) : az_run xs g d k pc L st G = some o := by
  induction hfg with
  | refl => exact h
  | step _ ih => exact az_run_up _ _ _ _ _ _ _ _ ih
theorem az_W_of {xs : az_X} {d k pc : Nat} {L : az_Ls} {st : List Value} {G : az_G} {K : az_O → Prop} {g : Nat → Option az_O} (h : ∀ f, az_run xs (f + 1) d k pc L st G = g f) : az_W xs d k pc L st G K ↔ ∃ (f : Nat) (o : az_O), g f = some o ∧ K o := by
  constructor
  · rintro ⟨f, o, h1, h2⟩
    cases f with
    | zero => cases h1
    | succ f => exact ⟨f, o, (h f).symm.trans h1, h2⟩
  · rintro ⟨f, o, h1, h2⟩
    exact ⟨f + 1, o, (h f).trans h1, h2⟩
theorem az_run_s {xs : az_X} {f d k pc : Nat} {L : az_Ls} {st : List Value} {G : az_G} {i : Instr} {len : Nat} (hd : decode (az_code k) pc = .ok (i, len)) (hil : az_il i len = true) (he : az_end k i pc st G = none) (hc : az_cal k i st G.1 = none) :
    az_run xs (f + 1) d k pc L st G = (match az_stp xs k i pc (pc + len) L st G with | some q => az_run xs f d k q.1 q.2.1 q.2.2.1 q.2.2.2 | none => none) := by
  rw [az_run, hd]
  dsimp only
  rw [if_pos hil, he]
  dsimp only
  rw [hc]
  rfl
theorem az_W_s {xs : az_X} {d k pc pc' : Nat} {L L' : az_Ls} {st st' : List Value} {G G' : az_G} {K : az_O → Prop} {i : Instr} {len : Nat} (hd : decode (az_code k) pc = .ok (i, len)) (hil : az_il i len = true) (he : az_end k i pc st G = none) (hc : az_cal k i st G.1 = none) (hs : az_stp xs k i pc (pc + len) L st G = some (pc', L', st', G')) :
    az_W xs d k pc L st G K ↔ az_W xs d k pc' L' st' G' K :=
  az_W_of (g := fun f => az_run xs f d k pc' L' st' G') fun f => by rw [az_run_s hd hil he hc, hs]
theorem az_W_c {xs : az_X} {d k pc pc' : Nat} {L L' : az_Ls} {st st' : List Value} {G G' : az_G} {K : az_O → Prop} {i : Instr} {len : Nat} {c : Prop} (hd : decode (az_code k) pc = .ok (i, len)) (hil : az_il i len = true) (he : az_end k i pc st G = none) (hc : az_cal k i st G.1 = none) (hs : c → az_stp xs k i pc (pc + len) L st G = some (pc', L', st', G')) (hn : ¬ c → az_stp xs k i pc (pc + len) L st G = none) :
    az_W xs d k pc L st G K ↔ c ∧ az_W xs d k pc' L' st' G' K := by
  by_cases h : c
  · rw [az_W_s hd hil he hc (hs h)]
    exact ⟨fun w => ⟨h, w⟩, fun w => w.2⟩
  · constructor
    · rintro ⟨f, o, h1, -⟩
      cases f with
      | zero => cases h1
      | succ f => rw [az_run_s hd hil he hc, hn h] at h1; cases h1
    · exact fun w => absurd w.1 h
theorem az_W_e {xs : az_X} {d k pc : Nat} {L : az_Ls} {st : List Value} {G : az_G} {K : az_O → Prop} {i : Instr} {len : Nat} {o : az_O} (hd : decode (az_code k) pc = .ok (i, len)) (hil : az_il i len = true) (he : az_end k i pc st G = some o) : az_W xs d k pc L st G K ↔ K o := by
  rw [az_W_of (g := fun _ => some o) fun f => by rw [az_run, hd]; dsimp only; rw [if_pos hil, he]]
  constructor
  · rintro ⟨f, o', h1, h2⟩
    cases h1
    exact h2
  · exact fun h => ⟨0, o, rfl, h⟩
/-- behind a throw of a callee -/
def az_thn (xs : az_X) (d k pc : Nat) (L : az_Ls) (K : az_O → Prop) (o : az_O) : Prop := match az_hnd k pc o.1 with
  | some (n, nx) => az_W xs d k nx (L.set n none) [] o.2.2 K
  | none => (az_xt k = [] ∧ k ≠ az_main) ∧ K (o.1, none, o.2.2)
def az_bk (xs : az_X) (d k pc nx : Nat) (L : az_Ls) (rest : List Value) (K : az_O → Prop) : az_O → Prop := fun o => if o.1 = 0 then az_W xs d k nx L (o.2.1.toList ++ rest) o.2.2 K else az_thn xs d k pc L K o
theorem az_W_k {xs : az_X} {d k pc : Nat} {L : az_Ls} {st rest as : List Value} {G : az_G} {K : az_O → Prop} {i : Instr} {m : Nat} (hd : decode (az_code k) pc = .ok (i, 3)) (hil : az_il i 3 = true) (he : az_end k i pc st G = none) (hc : az_cal k i st G.1 = some (m, as, rest)) :
    az_W xs d k pc L st G K ↔ az_C xs d m as G (az_bk xs d k pc (pc + 3) L rest K) := by
  rw [az_W_of (g := fun f => match d with
    | 0 => none
    | d + 1 => (match az_run xs f d m 0 (az_lay m as) [] G with
      | none => none
      | some o => if o.1 = 0 then az_run xs f (d + 1) k (pc + 3) L (o.2.1.toList ++ rest) o.2.2 else (match az_hnd k pc o.1 with
        | some (n, nx) => az_run xs f (d + 1) k nx (L.set n none) [] o.2.2
        | none => if az_xt k = [] ∧ k ≠ az_main then some (o.1, none, o.2.2) else none))) fun f => by rw [az_run, hd]; dsimp only; rw [if_pos hil, he]; dsimp only; rw [hc]; cases d <;> rfl]
  cases d with
  | zero => exact ⟨fun ⟨f, o, h1, _⟩ => (by cases h1), fun h => False.elim h⟩
  | succ d =>
    dsimp only
    constructor
    · rintro ⟨f, o, h1, h2⟩
      split at h1
      · cases h1
      · rename_i o1 hr
        refine ⟨f, o1, hr, ?_⟩
        unfold az_bk
        split at h1
        · rename_i h0
          rw [if_pos h0]
          exact ⟨f, o, h1, h2⟩
        · rename_i h0
          rw [if_neg h0]
          unfold az_thn
          split at h1
          · rename_i n nx hh
            exact ⟨f, o, h1, h2⟩
          · rename_i hh
            split at h1
            · rename_i hcond
              cases h1
              exact ⟨hcond, h2⟩
            · cases h1
    · rintro ⟨f, o1, hr, h2⟩
      unfold az_bk at h2
      split at h2
      · rename_i h0
        obtain ⟨f2, o, h3, h4⟩ := h2
        refine ⟨f + f2, o, ?_, h4⟩
        rw [az_run_le (Nat.le_add_right f f2) hr]
        dsimp only
        rw [if_pos h0]
        exact az_run_le (Nat.le_add_left f2 f) h3
      · rename_i h0
        unfold az_thn at h2
        split at h2
        · rename_i n nx hh
          obtain ⟨f2, o, h3, h4⟩ := h2
          refine ⟨f + f2, o, ?_, h4⟩
          rw [az_run_le (Nat.le_add_right f f2) hr]
          dsimp only
          rw [if_neg h0, hh]
          exact az_run_le (Nat.le_add_left f2 f) h3
        · rename_i hh
          refine ⟨f, _, ?_, h2.2⟩
          rw [hr]
          dsimp only
          rw [if_neg h0, hh]
          dsimp only
          rw [if_pos h2.1]
abbrev T_ic (k pc nx : Nat) (v : Int32) : Prop := ∀ {xs : az_X} {d : Nat} {L : az_Ls} {st : List Value} {G : az_G} {K : az_O → Prop}, az_W xs d k pc L st G K ↔ az_W xs d k nx L (.int v :: st) G K
theorem w_ic1 {k pc : Nat} {n : Int} {v : Int32} (hd : decode (az_code k) pc = .ok (.iconst n, 1)) (hv : Int32.ofInt n = v) : T_ic k pc (pc + 1) v := by
  intros
  subst hv
  exact az_W_s hd rfl rfl rfl rfl
theorem w_ic2 {k pc : Nat} {n : Int} {v : Int32} (hd : decode (az_code k) pc = .ok (.bipush n, 2)) (hv : (Int8.ofInt n).toInt32 = v) : T_ic k pc (pc + 2) v := by
  intros
  subst hv
  exact az_W_s hd rfl rfl rfl rfl
theorem w_ic3 {k pc : Nat} {n : Int} {v : Int32} (hd : decode (az_code k) pc = .ok (.sipush n, 3)) (hv : (Int16.ofInt n).toInt32 = v) : T_ic k pc (pc + 3) v := by
  intros
  subst hv
  exact az_W_s hd rfl rfl rfl rfl
theorem w_ic4 {k pc x : Nat} {v : Int32} (hd : decode (az_code k) pc = .ok (.ldc x, 2)) (hv : az_kc (az_own k) x = some v) : T_ic k pc (pc + 2) v := by
  intros
  exact az_W_s hd rfl rfl rfl (by show (az_kc (az_own k) x).map _ = _; rw [hv]; rfl)
theorem w_ic5 {k pc x : Nat} {v : Int32} (hd : decode (az_code k) pc = .ok (.ldc_w x, 3)) (hv : az_kc (az_own k) x = some v) : T_ic k pc (pc + 3) v := by
  intros
  exact az_W_s hd rfl rfl rfl (by show (az_kc (az_own k) x).map _ = _; rw [hv]; rfl)
abbrev T_lc (k pc nx : Nat) (v : Int64) : Prop := ∀ {xs : az_X} {d : Nat} {L : az_Ls} {st : List Value} {G : az_G} {K : az_O → Prop}, az_W xs d k pc L st G K ↔ az_W xs d k nx L (.long v :: st) G K
theorem w_lc {k pc : Nat} {n : Fin 2} {v : Int64} (hd : decode (az_code k) pc = .ok (.lconst n, 1)) (hv : Int64.ofNat (n : Nat) = v) : T_lc k pc (pc + 1) v := by
  intros
  subst hv
  exact az_W_s hd rfl rfl rfl rfl
abbrev T_il0 (k pc nx : Nat) : Prop := ∀ {xs : az_X} {d : Nat} {x : Int32} {L : az_Ls} {st : List Value} {G : az_G} {K : az_O → Prop}, az_W xs d k pc (some (.int x) :: L) st G K ↔ az_W xs d k nx (some (.int x) :: L) (.int x :: st) G K
theorem w_il0 {k pc : Nat} (hd : decode (az_code k) pc = .ok (.iload 0, 2)) : T_il0 k pc (pc + 2) := by
  intros
  exact az_W_s hd rfl rfl rfl rfl
theorem w_iln0 {k pc : Nat} (hd : decode (az_code k) pc = .ok (.iload_n 0, 1)) : T_il0 k pc (pc + 1) := by
  intros
  exact az_W_s hd rfl rfl rfl rfl
abbrev T_al0 (k pc nx : Nat) : Prop := ∀ {xs : az_X} {d : Nat} {x : Nat} {L : az_Ls} {st : List Value} {G : az_G} {K : az_O → Prop}, az_W xs d k pc (some (.ref x) :: L) st G K ↔ az_W xs d k nx (some (.ref x) :: L) (.ref x :: st) G K
theorem w_al0 {k pc : Nat} (hd : decode (az_code k) pc = .ok (.aload 0, 2)) : T_al0 k pc (pc + 2) := by
  intros
  exact az_W_s hd rfl rfl rfl rfl
theorem w_aln0 {k pc : Nat} (hd : decode (az_code k) pc = .ok (.aload_n 0, 1)) : T_al0 k pc (pc + 1) := by
  intros
  exact az_W_s hd rfl rfl rfl rfl
abbrev T_is0 (k pc nx : Nat) : Prop := ∀ {xs : az_X} {d : Nat} {b9 : Option Value} {x : Int32} {L : az_Ls} {st : List Value} {G : az_G} {K : az_O → Prop}, az_W xs d k pc (b9 :: L) (.int x :: st) G K ↔ az_W xs d k nx (some (.int x) :: L) st G K
theorem w_is0 {k pc : Nat} (hd : decode (az_code k) pc = .ok (.istore 0, 2)) : T_is0 k pc (pc + 2) := by
  intro xs d  b9 x L st G K
  exact az_W_s hd rfl rfl rfl (if_pos (e := none) (show 0 < (b9 :: L).length by simp))
theorem w_isn0 {k pc : Nat} (hd : decode (az_code k) pc = .ok (.istore_n 0, 1)) : T_is0 k pc (pc + 1) := by
  intro xs d  b9 x L st G K
  exact az_W_s hd rfl rfl rfl (if_pos (e := none) (show 0 < (b9 :: L).length by simp))
abbrev T_as0 (k pc nx : Nat) : Prop := ∀ {xs : az_X} {d : Nat} {b9 : Option Value} {x : Nat} {L : az_Ls} {st : List Value} {G : az_G} {K : az_O → Prop}, az_W xs d k pc (b9 :: L) (.ref x :: st) G K ↔ az_W xs d k nx (some (.ref x) :: L) st G K
theorem w_as0 {k pc : Nat} (hd : decode (az_code k) pc = .ok (.astore 0, 2)) : T_as0 k pc (pc + 2) := by
  intro xs d  b9 x L st G K
  exact az_W_s hd rfl rfl rfl (if_pos (e := none) (show 0 < (b9 :: L).length by simp))
theorem w_asn0 {k pc : Nat} (hd : decode (az_code k) pc = .ok (.astore_n 0, 1)) : T_as0 k pc (pc + 1) := by
  intro xs d  b9 x L st G K
  exact az_W_s hd rfl rfl rfl (if_pos (e := none) (show 0 < (b9 :: L).length by simp))
abbrev T_inc0 (k pc nx : Nat) (v : Int32) : Prop := ∀ {xs : az_X} {d : Nat} {x : Int32} {L : az_Ls} {st : List Value} {G : az_G} {K : az_O → Prop}, az_W xs d k pc (some (.int x) :: L) st G K ↔ az_W xs d k nx (some (.int (x + v)) :: L) st G K
theorem w_inc0 {k pc : Nat} {c : Int} {v : Int32} (hd : decode (az_code k) pc = .ok (.iinc 0 c, 3)) (hv : Int32.ofInt c = v) : T_inc0 k pc (pc + 3) v := by
  intros
  subst hv
  exact az_W_s hd rfl rfl rfl rfl
abbrev T_il1 (k pc nx : Nat) : Prop := ∀ {xs : az_X} {d : Nat} {a0 : Option Value} {x : Int32} {L : az_Ls} {st : List Value} {G : az_G} {K : az_O → Prop}, az_W xs d k pc (a0 :: some (.int x) :: L) st G K ↔ az_W xs d k nx (a0 :: some (.int x) :: L) (.int x :: st) G K
theorem w_il1 {k pc : Nat} (hd : decode (az_code k) pc = .ok (.iload 1, 2)) : T_il1 k pc (pc + 2) := by
  intros
  exact az_W_s hd rfl rfl rfl rfl
theorem w_iln1 {k pc : Nat} (hd : decode (az_code k) pc = .ok (.iload_n 1, 1)) : T_il1 k pc (pc + 1) := by
  intros
  exact az_W_s hd rfl rfl rfl rfl
abbrev T_al1 (k pc nx : Nat) : Prop := ∀ {xs : az_X} {d : Nat} {a0 : Option Value} {x : Nat} {L : az_Ls} {st : List Value} {G : az_G} {K : az_O → Prop}, az_W xs d k pc (a0 :: some (.ref x) :: L) st G K ↔ az_W xs d k nx (a0 :: some (.ref x) :: L) (.ref x :: st) G K
theorem w_al1 {k pc : Nat} (hd : decode (az_code k) pc = .ok (.aload 1, 2)) : T_al1 k pc (pc + 2) := by
  intros
  exact az_W_s hd rfl rfl rfl rfl
theorem w_aln1 {k pc : Nat} (hd : decode (az_code k) pc = .ok (.aload_n 1, 1)) : T_al1 k pc (pc + 1) := by
  intros
  exact az_W_s hd rfl rfl rfl rfl
abbrev T_is1 (k pc nx : Nat) : Prop := ∀ {xs : az_X} {d : Nat} {a0 : Option Value} {b9 : Option Value} {x : Int32} {L : az_Ls} {st : List Value} {G : az_G} {K : az_O → Prop}, az_W xs d k pc (a0 :: b9 :: L) (.int x :: st) G K ↔ az_W xs d k nx (a0 :: some (.int x) :: L) st G K
theorem w_is1 {k pc : Nat} (hd : decode (az_code k) pc = .ok (.istore 1, 2)) : T_is1 k pc (pc + 2) := by
  intro xs d a0 b9 x L st G K
  exact az_W_s hd rfl rfl rfl (if_pos (e := none) (show 1 < (a0 :: b9 :: L).length by simp))
theorem w_isn1 {k pc : Nat} (hd : decode (az_code k) pc = .ok (.istore_n 1, 1)) : T_is1 k pc (pc + 1) := by
  intro xs d a0 b9 x L st G K
  exact az_W_s hd rfl rfl rfl (if_pos (e := none) (show 1 < (a0 :: b9 :: L).length by simp))
abbrev T_as1 (k pc nx : Nat) : Prop := ∀ {xs : az_X} {d : Nat} {a0 : Option Value} {b9 : Option Value} {x : Nat} {L : az_Ls} {st : List Value} {G : az_G} {K : az_O → Prop}, az_W xs d k pc (a0 :: b9 :: L) (.ref x :: st) G K ↔ az_W xs d k nx (a0 :: some (.ref x) :: L) st G K
theorem w_as1 {k pc : Nat} (hd : decode (az_code k) pc = .ok (.astore 1, 2)) : T_as1 k pc (pc + 2) := by
  intro xs d a0 b9 x L st G K
  exact az_W_s hd rfl rfl rfl (if_pos (e := none) (show 1 < (a0 :: b9 :: L).length by simp))
theorem w_asn1 {k pc : Nat} (hd : decode (az_code k) pc = .ok (.astore_n 1, 1)) : T_as1 k pc (pc + 1) := by
  intro xs d a0 b9 x L st G K
  exact az_W_s hd rfl rfl rfl (if_pos (e := none) (show 1 < (a0 :: b9 :: L).length by simp))
abbrev T_inc1 (k pc nx : Nat) (v : Int32) : Prop := ∀ {xs : az_X} {d : Nat} {a0 : Option Value} {x : Int32} {L : az_Ls} {st : List Value} {G : az_G} {K : az_O → Prop}, az_W xs d k pc (a0 :: some (.int x) :: L) st G K ↔ az_W xs d k nx (a0 :: some (.int (x + v)) :: L) st G K
theorem w_inc1 {k pc : Nat} {c : Int} {v : Int32} (hd : decode (az_code k) pc = .ok (.iinc 1 c, 3)) (hv : Int32.ofInt c = v) : T_inc1 k pc (pc + 3) v := by
  intros
  subst hv
  exact az_W_s hd rfl rfl rfl rfl
abbrev T_il2 (k pc nx : Nat) : Prop := ∀ {xs : az_X} {d : Nat} {a0 : Option Value} {a1 : Option Value} {x : Int32} {L : az_Ls} {st : List Value} {G : az_G} {K : az_O → Prop}, az_W xs d k pc (a0 :: a1 :: some (.int x) :: L) st G K ↔ az_W xs d k nx (a0 :: a1 :: some (.int x) :: L) (.int x :: st) G K
theorem w_il2 {k pc : Nat} (hd : decode (az_code k) pc = .ok (.iload 2, 2)) : T_il2 k pc (pc + 2) := by
  intros
  exact az_W_s hd rfl rfl rfl rfl
theorem w_iln2 {k pc : Nat} (hd : decode (az_code k) pc = .ok (.iload_n 2, 1)) : T_il2 k pc (pc + 1) := by
  intros
  exact az_W_s hd rfl rfl rfl rfl
abbrev T_al2 (k pc nx : Nat) : Prop := ∀ {xs : az_X} {d : Nat} {a0 : Option Value} {a1 : Option Value} {x : Nat} {L : az_Ls} {st : List Value} {G : az_G} {K : az_O → Prop}, az_W xs d k pc (a0 :: a1 :: some (.ref x) :: L) st G K ↔ az_W xs d k nx (a0 :: a1 :: some (.ref x) :: L) (.ref x :: st) G K
theorem w_al2 {k pc : Nat} (hd : decode (az_code k) pc = .ok (.aload 2, 2)) : T_al2 k pc (pc + 2) := by
  intros
  exact az_W_s hd rfl rfl rfl rfl
theorem w_aln2 {k pc : Nat} (hd : decode (az_code k) pc = .ok (.aload_n 2, 1)) : T_al2 k pc (pc + 1) := by
  intros
  exact az_W_s hd rfl rfl rfl rfl
abbrev T_is2 (k pc nx : Nat) : Prop := ∀ {xs : az_X} {d : Nat} {a0 : Option Value} {a1 : Option Value} {b9 : Option Value} {x : Int32} {L : az_Ls} {st : List Value} {G : az_G} {K : az_O → Prop}, az_W xs d k pc (a0 :: a1 :: b9 :: L) (.int x :: st) G K ↔ az_W xs d k nx (a0 :: a1 :: some (.int x) :: L) st G K
theorem w_is2 {k pc : Nat} (hd : decode (az_code k) pc = .ok (.istore 2, 2)) : T_is2 k pc (pc + 2) := by
  intro xs d a0 a1 b9 x L st G K
  exact az_W_s hd rfl rfl rfl (if_pos (e := none) (show 2 < (a0 :: a1 :: b9 :: L).length by simp))
theorem w_isn2 {k pc : Nat} (hd : decode (az_code k) pc = .ok (.istore_n 2, 1)) : T_is2 k pc (pc + 1) := by
  intro xs d a0 a1 b9 x L st G K
  exact az_W_s hd rfl rfl rfl (if_pos (e := none) (show 2 < (a0 :: a1 :: b9 :: L).length by simp))
abbrev T_as2 (k pc nx : Nat) : Prop := ∀ {xs : az_X} {d : Nat} {a0 : Option Value} {a1 : Option Value} {b9 : Option Value} {x : Nat} {L : az_Ls} {st : List Value} {G : az_G} {K : az_O → Prop}, az_W xs d k pc (a0 :: a1 :: b9 :: L) (.ref x :: st) G K ↔ az_W xs d k nx (a0 :: a1 :: some (.ref x) :: L) st G K
theorem w_as2 {k pc : Nat} (hd : decode (az_code k) pc = .ok (.astore 2, 2)) : T_as2 k pc (pc + 2) := by
  intro xs d a0 a1 b9 x L st G K
  exact az_W_s hd rfl rfl rfl (if_pos (e := none) (show 2 < (a0 :: a1 :: b9 :: L).length by simp))
theorem w_asn2 {k pc : Nat} (hd : decode (az_code k) pc = .ok (.astore_n 2, 1)) : T_as2 k pc (pc + 1) := by
  intro xs d a0 a1 b9 x L st G K
  exact az_W_s hd rfl rfl rfl (if_pos (e := none) (show 2 < (a0 :: a1 :: b9 :: L).length by simp))
abbrev T_inc2 (k pc nx : Nat) (v : Int32) : Prop := ∀ {xs : az_X} {d : Nat} {a0 : Option Value} {a1 : Option Value} {x : Int32} {L : az_Ls} {st : List Value} {G : az_G} {K : az_O → Prop}, az_W xs d k pc (a0 :: a1 :: some (.int x) :: L) st G K ↔ az_W xs d k nx (a0 :: a1 :: some (.int (x + v)) :: L) st G K
theorem w_inc2 {k pc : Nat} {c : Int} {v : Int32} (hd : decode (az_code k) pc = .ok (.iinc 2 c, 3)) (hv : Int32.ofInt c = v) : T_inc2 k pc (pc + 3) v := by
  intros
  subst hv
  exact az_W_s hd rfl rfl rfl rfl
abbrev T_il3 (k pc nx : Nat) : Prop := ∀ {xs : az_X} {d : Nat} {a0 : Option Value} {a1 : Option Value} {a2 : Option Value} {x : Int32} {L : az_Ls} {st : List Value} {G : az_G} {K : az_O → Prop}, az_W xs d k pc (a0 :: a1 :: a2 :: some (.int x) :: L) st G K ↔ az_W xs d k nx (a0 :: a1 :: a2 :: some (.int x) :: L) (.int x :: st) G K
theorem w_il3 {k pc : Nat} (hd : decode (az_code k) pc = .ok (.iload 3, 2)) : T_il3 k pc (pc + 2) := by
  intros
  exact az_W_s hd rfl rfl rfl rfl
theorem w_iln3 {k pc : Nat} (hd : decode (az_code k) pc = .ok (.iload_n 3, 1)) : T_il3 k pc (pc + 1) := by
  intros
  exact az_W_s hd rfl rfl rfl rfl
abbrev T_al3 (k pc nx : Nat) : Prop := ∀ {xs : az_X} {d : Nat} {a0 : Option Value} {a1 : Option Value} {a2 : Option Value} {x : Nat} {L : az_Ls} {st : List Value} {G : az_G} {K : az_O → Prop}, az_W xs d k pc (a0 :: a1 :: a2 :: some (.ref x) :: L) st G K ↔ az_W xs d k nx (a0 :: a1 :: a2 :: some (.ref x) :: L) (.ref x :: st) G K
theorem w_al3 {k pc : Nat} (hd : decode (az_code k) pc = .ok (.aload 3, 2)) : T_al3 k pc (pc + 2) := by
  intros
  exact az_W_s hd rfl rfl rfl rfl
theorem w_aln3 {k pc : Nat} (hd : decode (az_code k) pc = .ok (.aload_n 3, 1)) : T_al3 k pc (pc + 1) := by
  intros
  exact az_W_s hd rfl rfl rfl rfl
abbrev T_is3 (k pc nx : Nat) : Prop := ∀ {xs : az_X} {d : Nat} {a0 : Option Value} {a1 : Option Value} {a2 : Option Value} {b9 : Option Value} {x : Int32} {L : az_Ls} {st : List Value} {G : az_G} {K : az_O → Prop}, az_W xs d k pc (a0 :: a1 :: a2 :: b9 :: L) (.int x :: st) G K ↔ az_W xs d k nx (a0 :: a1 :: a2 :: some (.int x) :: L) st G K
theorem w_is3 {k pc : Nat} (hd : decode (az_code k) pc = .ok (.istore 3, 2)) : T_is3 k pc (pc + 2) := by
  intro xs d a0 a1 a2 b9 x L st G K
  exact az_W_s hd rfl rfl rfl (if_pos (e := none) (show 3 < (a0 :: a1 :: a2 :: b9 :: L).length by simp))
theorem w_isn3 {k pc : Nat} (hd : decode (az_code k) pc = .ok (.istore_n 3, 1)) : T_is3 k pc (pc + 1) := by
  intro xs d a0 a1 a2 b9 x L st G K
  exact az_W_s hd rfl rfl rfl (if_pos (e := none) (show 3 < (a0 :: a1 :: a2 :: b9 :: L).length by simp))
abbrev T_as3 (k pc nx : Nat) : Prop := ∀ {xs : az_X} {d : Nat} {a0 : Option Value} {a1 : Option Value} {a2 : Option Value} {b9 : Option Value} {x : Nat} {L : az_Ls} {st : List Value} {G : az_G} {K : az_O → Prop}, az_W xs d k pc (a0 :: a1 :: a2 :: b9 :: L) (.ref x :: st) G K ↔ az_W xs d k nx (a0 :: a1 :: a2 :: some (.ref x) :: L) st G K
theorem w_as3 {k pc : Nat} (hd : decode (az_code k) pc = .ok (.astore 3, 2)) : T_as3 k pc (pc + 2) := by
  intro xs d a0 a1 a2 b9 x L st G K
  exact az_W_s hd rfl rfl rfl (if_pos (e := none) (show 3 < (a0 :: a1 :: a2 :: b9 :: L).length by simp))
theorem w_asn3 {k pc : Nat} (hd : decode (az_code k) pc = .ok (.astore_n 3, 1)) : T_as3 k pc (pc + 1) := by
  intro xs d a0 a1 a2 b9 x L st G K
  exact az_W_s hd rfl rfl rfl (if_pos (e := none) (show 3 < (a0 :: a1 :: a2 :: b9 :: L).length by simp))
abbrev T_inc3 (k pc nx : Nat) (v : Int32) : Prop := ∀ {xs : az_X} {d : Nat} {a0 : Option Value} {a1 : Option Value} {a2 : Option Value} {x : Int32} {L : az_Ls} {st : List Value} {G : az_G} {K : az_O → Prop}, az_W xs d k pc (a0 :: a1 :: a2 :: some (.int x) :: L) st G K ↔ az_W xs d k nx (a0 :: a1 :: a2 :: some (.int (x + v)) :: L) st G K
theorem w_inc3 {k pc : Nat} {c : Int} {v : Int32} (hd : decode (az_code k) pc = .ok (.iinc 3 c, 3)) (hv : Int32.ofInt c = v) : T_inc3 k pc (pc + 3) v := by
  intros
  subst hv
  exact az_W_s hd rfl rfl rfl rfl
abbrev T_il4 (k pc nx : Nat) : Prop := ∀ {xs : az_X} {d : Nat} {a0 : Option Value} {a1 : Option Value} {a2 : Option Value} {a3 : Option Value} {x : Int32} {L : az_Ls} {st : List Value} {G : az_G} {K : az_O → Prop}, az_W xs d k pc (a0 :: a1 :: a2 :: a3 :: some (.int x) :: L) st G K ↔ az_W xs d k nx (a0 :: a1 :: a2 :: a3 :: some (.int x) :: L) (.int x :: st) G K
theorem w_il4 {k pc : Nat} (hd : decode (az_code k) pc = .ok (.iload 4, 2)) : T_il4 k pc (pc + 2) := by
  intros
  exact az_W_s hd rfl rfl rfl rfl
abbrev T_al4 (k pc nx : Nat) : Prop := ∀ {xs : az_X} {d : Nat} {a0 : Option Value} {a1 : Option Value} {a2 : Option Value} {a3 : Option Value} {x : Nat} {L : az_Ls} {st : List Value} {G : az_G} {K : az_O → Prop}, az_W xs d k pc (a0 :: a1 :: a2 :: a3 :: some (.ref x) :: L) st G K ↔ az_W xs d k nx (a0 :: a1 :: a2 :: a3 :: some (.ref x) :: L) (.ref x :: st) G K
theorem w_al4 {k pc : Nat} (hd : decode (az_code k) pc = .ok (.aload 4, 2)) : T_al4 k pc (pc + 2) := by
  intros
  exact az_W_s hd rfl rfl rfl rfl
abbrev T_is4 (k pc nx : Nat) : Prop := ∀ {xs : az_X} {d : Nat} {a0 : Option Value} {a1 : Option Value} {a2 : Option Value} {a3 : Option Value} {b9 : Option Value} {x : Int32} {L : az_Ls} {st : List Value} {G : az_G} {K : az_O → Prop}, az_W xs d k pc (a0 :: a1 :: a2 :: a3 :: b9 :: L) (.int x :: st) G K ↔ az_W xs d k nx (a0 :: a1 :: a2 :: a3 :: some (.int x) :: L) st G K
theorem w_is4 {k pc : Nat} (hd : decode (az_code k) pc = .ok (.istore 4, 2)) : T_is4 k pc (pc + 2) := by
  intro xs d a0 a1 a2 a3 b9 x L st G K
  exact az_W_s hd rfl rfl rfl (if_pos (e := none) (show 4 < (a0 :: a1 :: a2 :: a3 :: b9 :: L).length by simp))
abbrev T_as4 (k pc nx : Nat) : Prop := ∀ {xs : az_X} {d : Nat} {a0 : Option Value} {a1 : Option Value} {a2 : Option Value} {a3 : Option Value} {b9 : Option Value} {x : Nat} {L : az_Ls} {st : List Value} {G : az_G} {K : az_O → Prop}, az_W xs d k pc (a0 :: a1 :: a2 :: a3 :: b9 :: L) (.ref x :: st) G K ↔ az_W xs d k nx (a0 :: a1 :: a2 :: a3 :: some (.ref x) :: L) st G K
theorem w_as4 {k pc : Nat} (hd : decode (az_code k) pc = .ok (.astore 4, 2)) : T_as4 k pc (pc + 2) := by
  intro xs d a0 a1 a2 a3 b9 x L st G K
  exact az_W_s hd rfl rfl rfl (if_pos (e := none) (show 4 < (a0 :: a1 :: a2 :: a3 :: b9 :: L).length by simp))
abbrev T_inc4 (k pc nx : Nat) (v : Int32) : Prop := ∀ {xs : az_X} {d : Nat} {a0 : Option Value} {a1 : Option Value} {a2 : Option Value} {a3 : Option Value} {x : Int32} {L : az_Ls} {st : List Value} {G : az_G} {K : az_O → Prop}, az_W xs d k pc (a0 :: a1 :: a2 :: a3 :: some (.int x) :: L) st G K ↔ az_W xs d k nx (a0 :: a1 :: a2 :: a3 :: some (.int (x + v)) :: L) st G K
theorem w_inc4 {k pc : Nat} {c : Int} {v : Int32} (hd : decode (az_code k) pc = .ok (.iinc 4 c, 3)) (hv : Int32.ofInt c = v) : T_inc4 k pc (pc + 3) v := by
  intros
  subst hv
  exact az_W_s hd rfl rfl rfl rfl
abbrev T_il5 (k pc nx : Nat) : Prop := ∀ {xs : az_X} {d : Nat} {a0 : Option Value} {a1 : Option Value} {a2 : Option Value} {a3 : Option Value} {a4 : Option Value} {x : Int32} {L : az_Ls} {st : List Value} {G : az_G} {K : az_O → Prop}, az_W xs d k pc (a0 :: a1 :: a2 :: a3 :: a4 :: some (.int x) :: L) st G K ↔ az_W xs d k nx (a0 :: a1 :: a2 :: a3 :: a4 :: some (.int x) :: L) (.int x :: st) G K
theorem w_il5 {k pc : Nat} (hd : decode (az_code k) pc = .ok (.iload 5, 2)) : T_il5 k pc (pc + 2) := by
  intros
  exact az_W_s hd rfl rfl rfl rfl
abbrev T_al5 (k pc nx : Nat) : Prop := ∀ {xs : az_X} {d : Nat} {a0 : Option Value} {a1 : Option Value} {a2 : Option Value} {a3 : Option Value} {a4 : Option Value} {x : Nat} {L : az_Ls} {st : List Value} {G : az_G} {K : az_O → Prop}, az_W xs d k pc (a0 :: a1 :: a2 :: a3 :: a4 :: some (.ref x) :: L) st G K ↔ az_W xs d k nx (a0 :: a1 :: a2 :: a3 :: a4 :: some (.ref x) :: L) (.ref x :: st) G K
theorem w_al5 {k pc : Nat} (hd : decode (az_code k) pc = .ok (.aload 5, 2)) : T_al5 k pc (pc + 2) := by
  intros
  exact az_W_s hd rfl rfl rfl rfl
abbrev T_is5 (k pc nx : Nat) : Prop := ∀ {xs : az_X} {d : Nat} {a0 : Option Value} {a1 : Option Value} {a2 : Option Value} {a3 : Option Value} {a4 : Option Value} {b9 : Option Value} {x : Int32} {L : az_Ls} {st : List Value} {G : az_G} {K : az_O → Prop}, az_W xs d k pc (a0 :: a1 :: a2 :: a3 :: a4 :: b9 :: L) (.int x :: st) G K ↔ az_W xs d k nx (a0 :: a1 :: a2 :: a3 :: a4 :: some (.int x) :: L) st G K
theorem w_is5 {k pc : Nat} (hd : decode (az_code k) pc = .ok (.istore 5, 2)) : T_is5 k pc (pc + 2) := by
  intro xs d a0 a1 a2 a3 a4 b9 x L st G K
  exact az_W_s hd rfl rfl rfl (if_pos (e := none) (show 5 < (a0 :: a1 :: a2 :: a3 :: a4 :: b9 :: L).length by simp))
abbrev T_as5 (k pc nx : Nat) : Prop := ∀ {xs : az_X} {d : Nat} {a0 : Option Value} {a1 : Option Value} {a2 : Option Value} {a3 : Option Value} {a4 : Option Value} {b9 : Option Value} {x : Nat} {L : az_Ls} {st : List Value} {G : az_G} {K : az_O → Prop}, az_W xs d k pc (a0 :: a1 :: a2 :: a3 :: a4 :: b9 :: L) (.ref x :: st) G K ↔ az_W xs d k nx (a0 :: a1 :: a2 :: a3 :: a4 :: some (.ref x) :: L) st G K
theorem w_as5 {k pc : Nat} (hd : decode (az_code k) pc = .ok (.astore 5, 2)) : T_as5 k pc (pc + 2) := by
  intro xs d a0 a1 a2 a3 a4 b9 x L st G K
  exact az_W_s hd rfl rfl rfl (if_pos (e := none) (show 5 < (a0 :: a1 :: a2 :: a3 :: a4 :: b9 :: L).length by simp))
abbrev T_inc5 (k pc nx : Nat) (v : Int32) : Prop := ∀ {xs : az_X} {d : Nat} {a0 : Option Value} {a1 : Option Value} {a2 : Option Value} {a3 : Option Value} {a4 : Option Value} {x : Int32} {L : az_Ls} {st : List Value} {G : az_G} {K : az_O → Prop}, az_W xs d k pc (a0 :: a1 :: a2 :: a3 :: a4 :: some (.int x) :: L) st G K ↔ az_W xs d k nx (a0 :: a1 :: a2 :: a3 :: a4 :: some (.int (x + v)) :: L) st G K
theorem w_inc5 {k pc : Nat} {c : Int} {v : Int32} (hd : decode (az_code k) pc = .ok (.iinc 5 c, 3)) (hv : Int32.ofInt c = v) : T_inc5 k pc (pc + 3) v := by
  intros
  subst hv
  exact az_W_s hd rfl rfl rfl rfl
abbrev T_il6 (k pc nx : Nat) : Prop := ∀ {xs : az_X} {d : Nat} {a0 : Option Value} {a1 : Option Value} {a2 : Option Value} {a3 : Option Value} {a4 : Option Value} {a5 : Option Value} {x : Int32} {L : az_Ls} {st : List Value} {G : az_G} {K : az_O → Prop}, az_W xs d k pc (a0 :: a1 :: a2 :: a3 :: a4 :: a5 :: some (.int x) :: L) st G K ↔ az_W xs d k nx (a0 :: a1 :: a2 :: a3 :: a4 :: a5 :: some (.int x) :: L) (.int x :: st) G K
theorem w_il6 {k pc : Nat} (hd : decode (az_code k) pc = .ok (.iload 6, 2)) : T_il6 k pc (pc + 2) := by
  intros
  exact az_W_s hd rfl rfl rfl rfl
abbrev T_al6 (k pc nx : Nat) : Prop := ∀ {xs : az_X} {d : Nat} {a0 : Option Value} {a1 : Option Value} {a2 : Option Value} {a3 : Option Value} {a4 : Option Value} {a5 : Option Value} {x : Nat} {L : az_Ls} {st : List Value} {G : az_G} {K : az_O → Prop}, az_W xs d k pc (a0 :: a1 :: a2 :: a3 :: a4 :: a5 :: some (.ref x) :: L) st G K ↔ az_W xs d k nx (a0 :: a1 :: a2 :: a3 :: a4 :: a5 :: some (.ref x) :: L) (.ref x :: st) G K
theorem w_al6 {k pc : Nat} (hd : decode (az_code k) pc = .ok (.aload 6, 2)) : T_al6 k pc (pc + 2) := by
  intros
  exact az_W_s hd rfl rfl rfl rfl
abbrev T_is6 (k pc nx : Nat) : Prop := ∀ {xs : az_X} {d : Nat} {a0 : Option Value} {a1 : Option Value} {a2 : Option Value} {a3 : Option Value} {a4 : Option Value} {a5 : Option Value} {b9 : Option Value} {x : Int32} {L : az_Ls} {st : List Value} {G : az_G} {K : az_O → Prop}, az_W xs d k pc (a0 :: a1 :: a2 :: a3 :: a4 :: a5 :: b9 :: L) (.int x :: st) G K ↔ az_W xs d k nx (a0 :: a1 :: a2 :: a3 :: a4 :: a5 :: some (.int x) :: L) st G K
theorem w_is6 {k pc : Nat} (hd : decode (az_code k) pc = .ok (.istore 6, 2)) : T_is6 k pc (pc + 2) := by
  intro xs d a0 a1 a2 a3 a4 a5 b9 x L st G K
  exact az_W_s hd rfl rfl rfl (if_pos (e := none) (show 6 < (a0 :: a1 :: a2 :: a3 :: a4 :: a5 :: b9 :: L).length by simp))
abbrev T_as6 (k pc nx : Nat) : Prop := ∀ {xs : az_X} {d : Nat} {a0 : Option Value} {a1 : Option Value} {a2 : Option Value} {a3 : Option Value} {a4 : Option Value} {a5 : Option Value} {b9 : Option Value} {x : Nat} {L : az_Ls} {st : List Value} {G : az_G} {K : az_O → Prop}, az_W xs d k pc (a0 :: a1 :: a2 :: a3 :: a4 :: a5 :: b9 :: L) (.ref x :: st) G K ↔ az_W xs d k nx (a0 :: a1 :: a2 :: a3 :: a4 :: a5 :: some (.ref x) :: L) st G K
theorem w_as6 {k pc : Nat} (hd : decode (az_code k) pc = .ok (.astore 6, 2)) : T_as6 k pc (pc + 2) := by
  intro xs d a0 a1 a2 a3 a4 a5 b9 x L st G K
  exact az_W_s hd rfl rfl rfl (if_pos (e := none) (show 6 < (a0 :: a1 :: a2 :: a3 :: a4 :: a5 :: b9 :: L).length by simp))
abbrev T_inc6 (k pc nx : Nat) (v : Int32) : Prop := ∀ {xs : az_X} {d : Nat} {a0 : Option Value} {a1 : Option Value} {a2 : Option Value} {a3 : Option Value} {a4 : Option Value} {a5 : Option Value} {x : Int32} {L : az_Ls} {st : List Value} {G : az_G} {K : az_O → Prop}, az_W xs d k pc (a0 :: a1 :: a2 :: a3 :: a4 :: a5 :: some (.int x) :: L) st G K ↔ az_W xs d k nx (a0 :: a1 :: a2 :: a3 :: a4 :: a5 :: some (.int (x + v)) :: L) st G K
theorem w_inc6 {k pc : Nat} {c : Int} {v : Int32} (hd : decode (az_code k) pc = .ok (.iinc 6 c, 3)) (hv : Int32.ofInt c = v) : T_inc6 k pc (pc + 3) v := by
  intros
  subst hv
  exact az_W_s hd rfl rfl rfl rfl
abbrev T_il7 (k pc nx : Nat) : Prop := ∀ {xs : az_X} {d : Nat} {a0 : Option Value} {a1 : Option Value} {a2 : Option Value} {a3 : Option Value} {a4 : Option Value} {a5 : Option Value} {a6 : Option Value} {x : Int32} {L : az_Ls} {st : List Value} {G : az_G} {K : az_O → Prop}, az_W xs d k pc (a0 :: a1 :: a2 :: a3 :: a4 :: a5 :: a6 :: some (.int x) :: L) st G K ↔ az_W xs d k nx (a0 :: a1 :: a2 :: a3 :: a4 :: a5 :: a6 :: some (.int x) :: L) (.int x :: st) G K
theorem w_il7 {k pc : Nat} (hd : decode (az_code k) pc = .ok (.iload 7, 2)) : T_il7 k pc (pc + 2) := by
  intros
  exact az_W_s hd rfl rfl rfl rfl
abbrev T_al7 (k pc nx : Nat) : Prop := ∀ {xs : az_X} {d : Nat} {a0 : Option Value} {a1 : Option Value} {a2 : Option Value} {a3 : Option Value} {a4 : Option Value} {a5 : Option Value} {a6 : Option Value} {x : Nat} {L : az_Ls} {st : List Value} {G : az_G} {K : az_O → Prop}, az_W xs d k pc (a0 :: a1 :: a2 :: a3 :: a4 :: a5 :: a6 :: some (.ref x) :: L) st G K ↔ az_W xs d k nx (a0 :: a1 :: a2 :: a3 :: a4 :: a5 :: a6 :: some (.ref x) :: L) (.ref x :: st) G K
theorem w_al7 {k pc : Nat} (hd : decode (az_code k) pc = .ok (.aload 7, 2)) : T_al7 k pc (pc + 2) := by
  intros
  exact az_W_s hd rfl rfl rfl rfl
abbrev T_is7 (k pc nx : Nat) : Prop := ∀ {xs : az_X} {d : Nat} {a0 : Option Value} {a1 : Option Value} {a2 : Option Value} {a3 : Option Value} {a4 : Option Value} {a5 : Option Value} {a6 : Option Value} {b9 : Option Value} {x : Int32} {L : az_Ls} {st : List Value} {G : az_G} {K : az_O → Prop}, az_W xs d k pc (a0 :: a1 :: a2 :: a3 :: a4 :: a5 :: a6 :: b9 :: L) (.int x :: st) G K ↔ az_W xs d k nx (a0 :: a1 :: a2 :: a3 :: a4 :: a5 :: a6 :: some (.int x) :: L) st G K
theorem w_is7 {k pc : Nat} (hd : decode (az_code k) pc = .ok (.istore 7, 2)) : T_is7 k pc (pc + 2) := by
  intro xs d a0 a1 a2 a3 a4 a5 a6 b9 x L st G K
  exact az_W_s hd rfl rfl rfl (if_pos (e := none) (show 7 < (a0 :: a1 :: a2 :: a3 :: a4 :: a5 :: a6 :: b9 :: L).length by simp))
abbrev T_as7 (k pc nx : Nat) : Prop := ∀ {xs : az_X} {d : Nat} {a0 : Option Value} {a1 : Option Value} {a2 : Option Value} {a3 : Option Value} {a4 : Option Value} {a5 : Option Value} {a6 : Option Value} {b9 : Option Value} {x : Nat} {L : az_Ls} {st : List Value} {G : az_G} {K : az_O → Prop}, az_W xs d k pc (a0 :: a1 :: a2 :: a3 :: a4 :: a5 :: a6 :: b9 :: L) (.ref x :: st) G K ↔ az_W xs d k nx (a0 :: a1 :: a2 :: a3 :: a4 :: a5 :: a6 :: some (.ref x) :: L) st G K
theorem w_as7 {k pc : Nat} (hd : decode (az_code k) pc = .ok (.astore 7, 2)) : T_as7 k pc (pc + 2) := by
  intro xs d a0 a1 a2 a3 a4 a5 a6 b9 x L st G K
  exact az_W_s hd rfl rfl rfl (if_pos (e := none) (show 7 < (a0 :: a1 :: a2 :: a3 :: a4 :: a5 :: a6 :: b9 :: L).length by simp))
abbrev T_inc7 (k pc nx : Nat) (v : Int32) : Prop := ∀ {xs : az_X} {d : Nat} {a0 : Option Value} {a1 : Option Value} {a2 : Option Value} {a3 : Option Value} {a4 : Option Value} {a5 : Option Value} {a6 : Option Value} {x : Int32} {L : az_Ls} {st : List Value} {G : az_G} {K : az_O → Prop}, az_W xs d k pc (a0 :: a1 :: a2 :: a3 :: a4 :: a5 :: a6 :: some (.int x) :: L) st G K ↔ az_W xs d k nx (a0 :: a1 :: a2 :: a3 :: a4 :: a5 :: a6 :: some (.int (x + v)) :: L) st G K
theorem w_inc7 {k pc : Nat} {c : Int} {v : Int32} (hd : decode (az_code k) pc = .ok (.iinc 7 c, 3)) (hv : Int32.ofInt c = v) : T_inc7 k pc (pc + 3) v := by
  intros
  subst hv
  exact az_W_s hd rfl rfl rfl rfl
abbrev T_il8 (k pc nx : Nat) : Prop := ∀ {xs : az_X} {d : Nat} {a0 : Option Value} {a1 : Option Value} {a2 : Option Value} {a3 : Option Value} {a4 : Option Value} {a5 : Option Value} {a6 : Option Value} {a7 : Option Value} {x : Int32} {L : az_Ls} {st : List Value} {G : az_G} {K : az_O → Prop}, az_W xs d k pc (a0 :: a1 :: a2 :: a3 :: a4 :: a5 :: a6 :: a7 :: some (.int x) :: L) st G K ↔ az_W xs d k nx (a0 :: a1 :: a2 :: a3 :: a4 :: a5 :: a6 :: a7 :: some (.int x) :: L) (.int x :: st) G K
theorem w_il8 {k pc : Nat} (hd : decode (az_code k) pc = .ok (.iload 8, 2)) : T_il8 k pc (pc + 2) := by
  intros
  exact az_W_s hd rfl rfl rfl rfl
abbrev T_al8 (k pc nx : Nat) : Prop := ∀ {xs : az_X} {d : Nat} {a0 : Option Value} {a1 : Option Value} {a2 : Option Value} {a3 : Option Value} {a4 : Option Value} {a5 : Option Value} {a6 : Option Value} {a7 : Option Value} {x : Nat} {L : az_Ls} {st : List Value} {G : az_G} {K : az_O → Prop}, az_W xs d k pc (a0 :: a1 :: a2 :: a3 :: a4 :: a5 :: a6 :: a7 :: some (.ref x) :: L) st G K ↔ az_W xs d k nx (a0 :: a1 :: a2 :: a3 :: a4 :: a5 :: a6 :: a7 :: some (.ref x) :: L) (.ref x :: st) G K
theorem w_al8 {k pc : Nat} (hd : decode (az_code k) pc = .ok (.aload 8, 2)) : T_al8 k pc (pc + 2) := by
  intros
  exact az_W_s hd rfl rfl rfl rfl
abbrev T_is8 (k pc nx : Nat) : Prop := ∀ {xs : az_X} {d : Nat} {a0 : Option Value} {a1 : Option Value} {a2 : Option Value} {a3 : Option Value} {a4 : Option Value} {a5 : Option Value} {a6 : Option Value} {a7 : Option Value} {b9 : Option Value} {x : Int32} {L : az_Ls} {st : List Value} {G : az_G} {K : az_O → Prop}, az_W xs d k pc (a0 :: a1 :: a2 :: a3 :: a4 :: a5 :: a6 :: a7 :: b9 :: L) (.int x :: st) G K ↔ az_W xs d k nx (a0 :: a1 :: a2 :: a3 :: a4 :: a5 :: a6 :: a7 :: some (.int x) :: L) st G K
theorem w_is8 {k pc : Nat} (hd : decode (az_code k) pc = .ok (.istore 8, 2)) : T_is8 k pc (pc + 2) := by
  intro xs d a0 a1 a2 a3 a4 a5 a6 a7 b9 x L st G K
  exact az_W_s hd rfl rfl rfl (if_pos (e := none) (show 8 < (a0 :: a1 :: a2 :: a3 :: a4 :: a5 :: a6 :: a7 :: b9 :: L).length by simp))
abbrev T_as8 (k pc nx : Nat) : Prop := ∀ {xs : az_X} {d : Nat} {a0 : Option Value} {a1 : Option Value} {a2 : Option Value} {a3 : Option Value} {a4 : Option Value} {a5 : Option Value} {a6 : Option Value} {a7 : Option Value} {b9 : Option Value} {x : Nat} {L : az_Ls} {st : List Value} {G : az_G} {K : az_O → Prop}, az_W xs d k pc (a0 :: a1 :: a2 :: a3 :: a4 :: a5 :: a6 :: a7 :: b9 :: L) (.ref x :: st) G K ↔ az_W xs d k nx (a0 :: a1 :: a2 :: a3 :: a4 :: a5 :: a6 :: a7 :: some (.ref x) :: L) st G K
theorem w_as8 {k pc : Nat} (hd : decode (az_code k) pc = .ok (.astore 8, 2)) : T_as8 k pc (pc + 2) := by
  intro xs d a0 a1 a2 a3 a4 a5 a6 a7 b9 x L st G K
  exact az_W_s hd rfl rfl rfl (if_pos (e := none) (show 8 < (a0 :: a1 :: a2 :: a3 :: a4 :: a5 :: a6 :: a7 :: b9 :: L).length by simp))
abbrev T_inc8 (k pc nx : Nat) (v : Int32) : Prop := ∀ {xs : az_X} {d : Nat} {a0 : Option Value} {a1 : Option Value} {a2 : Option Value} {a3 : Option Value} {a4 : Option Value} {a5 : Option Value} {a6 : Option Value} {a7 : Option Value} {x : Int32} {L : az_Ls} {st : List Value} {G : az_G} {K : az_O → Prop}, az_W xs d k pc (a0 :: a1 :: a2 :: a3 :: a4 :: a5 :: a6 :: a7 :: some (.int x) :: L) st G K ↔ az_W xs d k nx (a0 :: a1 :: a2 :: a3 :: a4 :: a5 :: a6 :: a7 :: some (.int (x + v)) :: L) st G K
theorem w_inc8 {k pc : Nat} {c : Int} {v : Int32} (hd : decode (az_code k) pc = .ok (.iinc 8 c, 3)) (hv : Int32.ofInt c = v) : T_inc8 k pc (pc + 3) v := by
  intros
  subst hv
  exact az_W_s hd rfl rfl rfl rfl
abbrev T_il9 (k pc nx : Nat) : Prop := ∀ {xs : az_X} {d : Nat} {a0 : Option Value} {a1 : Option Value} {a2 : Option Value} {a3 : Option Value} {a4 : Option Value} {a5 : Option Value} {a6 : Option Value} {a7 : Option Value} {a8 : Option Value} {x : Int32} {L : az_Ls} {st : List Value} {G : az_G} {K : az_O → Prop}, az_W xs d k pc (a0 :: a1 :: a2 :: a3 :: a4 :: a5 :: a6 :: a7 :: a8 :: some (.int x) :: L) st G K ↔ az_W xs d k nx (a0 :: a1 :: a2 :: a3 :: a4 :: a5 :: a6 :: a7 :: a8 :: some (.int x) :: L) (.int x :: st) G K
theorem w_il9 {k pc : Nat} (hd : decode (az_code k) pc = .ok (.iload 9, 2)) : T_il9 k pc (pc + 2) := by
  intros
  exact az_W_s hd rfl rfl rfl rfl
abbrev T_al9 (k pc nx : Nat) : Prop := ∀ {xs : az_X} {d : Nat} {a0 : Option Value} {a1 : Option Value} {a2 : Option Value} {a3 : Option Value} {a4 : Option Value} {a5 : Option Value} {a6 : Option Value} {a7 : Option Value} {a8 : Option Value} {x : Nat} {L : az_Ls} {st : List Value} {G : az_G} {K : az_O → Prop}, az_W xs d k pc (a0 :: a1 :: a2 :: a3 :: a4 :: a5 :: a6 :: a7 :: a8 :: some (.ref x) :: L) st G K ↔ az_W xs d k nx (a0 :: a1 :: a2 :: a3 :: a4 :: a5 :: a6 :: a7 :: a8 :: some (.ref x) :: L) (.ref x :: st) G K
theorem w_al9 {k pc : Nat} (hd : decode (az_code k) pc = .ok (.aload 9, 2)) : T_al9 k pc (pc + 2) := by
  intros
  exact az_W_s hd rfl rfl rfl rfl
abbrev T_is9 (k pc nx : Nat) : Prop := ∀ {xs : az_X} {d : Nat} {a0 : Option Value} {a1 : Option Value} {a2 : Option Value} {a3 : Option Value} {a4 : Option Value} {a5 : Option Value} {a6 : Option Value} {a7 : Option Value} {a8 : Option Value} {b9 : Option Value} {x : Int32} {L : az_Ls} {st : List Value} {G : az_G} {K : az_O → Prop}, az_W xs d k pc (a0 :: a1 :: a2 :: a3 :: a4 :: a5 :: a6 :: a7 :: a8 :: b9 :: L) (.int x :: st) G K ↔ az_W xs d k nx (a0 :: a1 :: a2 :: a3 :: a4 :: a5 :: a6 :: a7 :: a8 :: some (.int x) :: L) st G K
theorem w_is9 {k pc : Nat} (hd : decode (az_code k) pc = .ok (.istore 9, 2)) : T_is9 k pc (pc + 2) := by
  intro xs d a0 a1 a2 a3 a4 a5 a6 a7 a8 b9 x L st G K
  exact az_W_s hd rfl rfl rfl (if_pos (e := none) (show 9 < (a0 :: a1 :: a2 :: a3 :: a4 :: a5 :: a6 :: a7 :: a8 :: b9 :: L).length by simp))
abbrev T_as9 (k pc nx : Nat) : Prop := ∀ {xs : az_X} {d : Nat} {a0 : Option Value} {a1 : Option Value} {a2 : Option Value} {a3 : Option Value} {a4 : Option Value} {a5 : Option Value} {a6 : Option Value} {a7 : Option Value} {a8 : Option Value} {b9 : Option Value} {x : Nat} {L : az_Ls} {st : List Value} {G : az_G} {K : az_O → Prop}, az_W xs d k pc (a0 :: a1 :: a2 :: a3 :: a4 :: a5 :: a6 :: a7 :: a8 :: b9 :: L) (.ref x :: st) G K ↔ az_W xs d k nx (a0 :: a1 :: a2 :: a3 :: a4 :: a5 :: a6 :: a7 :: a8 :: some (.ref x) :: L) st G K
theorem w_as9 {k pc : Nat} (hd : decode (az_code k) pc = .ok (.astore 9, 2)) : T_as9 k pc (pc + 2) := by
  intro xs d a0 a1 a2 a3 a4 a5 a6 a7 a8 b9 x L st G K
  exact az_W_s hd rfl rfl rfl (if_pos (e := none) (show 9 < (a0 :: a1 :: a2 :: a3 :: a4 :: a5 :: a6 :: a7 :: a8 :: b9 :: L).length by simp))
abbrev T_inc9 (k pc nx : Nat) (v : Int32) : Prop := ∀ {xs : az_X} {d : Nat} {a0 : Option Value} {a1 : Option Value} {a2 : Option Value} {a3 : Option Value} {a4 : Option Value} {a5 : Option Value} {a6 : Option Value} {a7 : Option Value} {a8 : Option Value} {x : Int32} {L : az_Ls} {st : List Value} {G : az_G} {K : az_O → Prop}, az_W xs d k pc (a0 :: a1 :: a2 :: a3 :: a4 :: a5 :: a6 :: a7 :: a8 :: some (.int x) :: L) st G K ↔ az_W xs d k nx (a0 :: a1 :: a2 :: a3 :: a4 :: a5 :: a6 :: a7 :: a8 :: some (.int (x + v)) :: L) st G K
theorem w_inc9 {k pc : Nat} {c : Int} {v : Int32} (hd : decode (az_code k) pc = .ok (.iinc 9 c, 3)) (hv : Int32.ofInt c = v) : T_inc9 k pc (pc + 3) v := by
  intros
  subst hv
  exact az_W_s hd rfl rfl rfl rfl
abbrev T_il10 (k pc nx : Nat) : Prop := ∀ {xs : az_X} {d : Nat} {a0 : Option Value} {a1 : Option Value} {a2 : Option Value} {a3 : Option Value} {a4 : Option Value} {a5 : Option Value} {a6 : Option Value} {a7 : Option Value} {a8 : Option Value} {a9 : Option Value} {x : Int32} {L : az_Ls} {st : List Value} {G : az_G} {K : az_O → Prop}, az_W xs d k pc (a0 :: a1 :: a2 :: a3 :: a4 :: a5 :: a6 :: a7 :: a8 :: a9 :: some (.int x) :: L) st G K ↔ az_W xs d k nx (a0 :: a1 :: a2 :: a3 :: a4 :: a5 :: a6 :: a7 :: a8 :: a9 :: some (.int x) :: L) (.int x :: st) G K
theorem w_il10 {k pc : Nat} (hd : decode (az_code k) pc = .ok (.iload 10, 2)) : T_il10 k pc (pc + 2) := by
  intros
  exact az_W_s hd rfl rfl rfl rfl
abbrev T_al10 (k pc nx : Nat) : Prop := ∀ {xs : az_X} {d : Nat} {a0 : Option Value} {a1 : Option Value} {a2 : Option Value} {a3 : Option Value} {a4 : Option Value} {a5 : Option Value} {a6 : Option Value} {a7 : Option Value} {a8 : Option Value} {a9 : Option Value} {x : Nat} {L : az_Ls} {st : List Value} {G : az_G} {K : az_O → Prop}, az_W xs d k pc (a0 :: a1 :: a2 :: a3 :: a4 :: a5 :: a6 :: a7 :: a8 :: a9 :: some (.ref x) :: L) st G K ↔ az_W xs d k nx (a0 :: a1 :: a2 :: a3 :: a4 :: a5 :: a6 :: a7 :: a8 :: a9 :: some (.ref x) :: L) (.ref x :: st) G K
theorem w_al10 {k pc : Nat} (hd : decode (az_code k) pc = .ok (.aload 10, 2)) : T_al10 k pc (pc + 2) := by
  intros
  exact az_W_s hd rfl rfl rfl rfl
abbrev T_is10 (k pc nx : Nat) : Prop := ∀ {xs : az_X} {d : Nat} {a0 : Option Value} {a1 : Option Value} {a2 : Option Value} {a3 : Option Value} {a4 : Option Value} {a5 : Option Value} {a6 : Option Value} {a7 : Option Value} {a8 : Option Value} {a9 : Option Value} {b9 : Option Value} {x : Int32} {L : az_Ls} {st : List Value} {G : az_G} {K : az_O → Prop}, az_W xs d k pc (a0 :: a1 :: a2 :: a3 :: a4 :: a5 :: a6 :: a7 :: a8 :: a9 :: b9 :: L) (.int x :: st) G K ↔ az_W xs d k nx (a0 :: a1 :: a2 :: a3 :: a4 :: a5 :: a6 :: a7 :: a8 :: a9 :: some (.int x) :: L) st G K
theorem w_is10 {k pc : Nat} (hd : decode (az_code k) pc = .ok (.istore 10, 2)) : T_is10 k pc (pc + 2) := by
  intro xs d a0 a1 a2 a3 a4 a5 a6 a7 a8 a9 b9 x L st G K
  exact az_W_s hd rfl rfl rfl (if_pos (e := none) (show 10 < (a0 :: a1 :: a2 :: a3 :: a4 :: a5 :: a6 :: a7 :: a8 :: a9 :: b9 :: L).length by simp))
abbrev T_as10 (k pc nx : Nat) : Prop := ∀ {xs : az_X} {d : Nat} {a0 : Option Value} {a1 : Option Value} {a2 : Option Value} {a3 : Option Value} {a4 : Option Value} {a5 : Option Value} {a6 : Option Value} {a7 : Option Value} {a8 : Option Value} {a9 : Option Value} {b9 : Option Value} {x : Nat} {L : az_Ls} {st : List Value} {G : az_G} {K : az_O → Prop}, az_W xs d k pc (a0 :: a1 :: a2 :: a3 :: a4 :: a5 :: a6 :: a7 :: a8 :: a9 :: b9 :: L) (.ref x :: st) G K ↔ az_W xs d k nx (a0 :: a1 :: a2 :: a3 :: a4 :: a5 :: a6 :: a7 :: a8 :: a9 :: some (.ref x) :: L) st G K
theorem w_as10 {k pc : Nat} (hd : decode (az_code k) pc = .ok (.astore 10, 2)) : T_as10 k pc (pc + 2) := by
  intro xs d a0 a1 a2 a3 a4 a5 a6 a7 a8 a9 b9 x L st G K
  exact az_W_s hd rfl rfl rfl (if_pos (e := none) (show 10 < (a0 :: a1 :: a2 :: a3 :: a4 :: a5 :: a6 :: a7 :: a8 :: a9 :: b9 :: L).length by simp))
abbrev T_inc10 (k pc nx : Nat) (v : Int32) : Prop := ∀ {xs : az_X} {d : Nat} {a0 : Option Value} {a1 : Option Value} {a2 : Option Value} {a3 : Option Value} {a4 : Option Value} {a5 : Option Value} {a6 : Option Value} {a7 : Option Value} {a8 : Option Value} {a9 : Option Value} {x : Int32} {L : az_Ls} {st : List Value} {G : az_G} {K : az_O → Prop}, az_W xs d k pc (a0 :: a1 :: a2 :: a3 :: a4 :: a5 :: a6 :: a7 :: a8 :: a9 :: some (.int x) :: L) st G K ↔ az_W xs d k nx (a0 :: a1 :: a2 :: a3 :: a4 :: a5 :: a6 :: a7 :: a8 :: a9 :: some (.int (x + v)) :: L) st G K
theorem w_inc10 {k pc : Nat} {c : Int} {v : Int32} (hd : decode (az_code k) pc = .ok (.iinc 10 c, 3)) (hv : Int32.ofInt c = v) : T_inc10 k pc (pc + 3) v := by
  intros
  subst hv
  exact az_W_s hd rfl rfl rfl rfl
abbrev T_il11 (k pc nx : Nat) : Prop := ∀ {xs : az_X} {d : Nat} {a0 : Option Value} {a1 : Option Value} {a2 : Option Value} {a3 : Option Value} {a4 : Option Value} {a5 : Option Value} {a6 : Option Value} {a7 : Option Value} {a8 : Option Value} {a9 : Option Value} {a10 : Option Value} {x : Int32} {L : az_Ls} {st : List Value} {G : az_G} {K : az_O → Prop}, az_W xs d k pc (a0 :: a1 :: a2 :: a3 :: a4 :: a5 :: a6 :: a7 :: a8 :: a9 :: a10 :: some (.int x) :: L) st G K ↔ az_W xs d k nx (a0 :: a1 :: a2 :: a3 :: a4 :: a5 :: a6 :: a7 :: a8 :: a9 :: a10 :: some (.int x) :: L) (.int x :: st) G K
theorem w_il11 {k pc : Nat} (hd : decode (az_code k) pc = .ok (.iload 11, 2)) : T_il11 k pc (pc + 2) := by
  intros
  exact az_W_s hd rfl rfl rfl rfl
abbrev T_al11 (k pc nx : Nat) : Prop := ∀ {xs : az_X} {d : Nat} {a0 : Option Value} {a1 : Option Value} {a2 : Option Value} {a3 : Option Value} {a4 : Option Value} {a5 : Option Value} {a6 : Option Value} {a7 : Option Value} {a8 : Option Value} {a9 : Option Value} {a10 : Option Value} {x : Nat} {L : az_Ls} {st : List Value} {G : az_G} {K : az_O → Prop}, az_W xs d k pc (a0 :: a1 :: a2 :: a3 :: a4 :: a5 :: a6 :: a7 :: a8 :: a9 :: a10 :: some (.ref x) :: L) st G K ↔ az_W xs d k nx (a0 :: a1 :: a2 :: a3 :: a4 :: a5 :: a6 :: a7 :: a8 :: a9 :: a10 :: some (.ref x) :: L) (.ref x :: st) G K
theorem w_al11 {k pc : Nat} (hd : decode (az_code k) pc = .ok (.aload 11, 2)) : T_al11 k pc (pc + 2) := by
  intros
  exact az_W_s hd rfl rfl rfl rfl
abbrev T_is11 (k pc nx : Nat) : Prop := ∀ {xs : az_X} {d : Nat} {a0 : Option Value} {a1 : Option Value} {a2 : Option Value} {a3 : Option Value} {a4 : Option Value} {a5 : Option Value} {a6 : Option Value} {a7 : Option Value} {a8 : Option Value} {a9 : Option Value} {a10 : Option Value} {b9 : Option Value} {x : Int32} {L : az_Ls} {st : List Value} {G : az_G} {K : az_O → Prop}, az_W xs d k pc (a0 :: a1 :: a2 :: a3 :: a4 :: a5 :: a6 :: a7 :: a8 :: a9 :: a10 :: b9 :: L) (.int x :: st) G K ↔ az_W xs d k nx (a0 :: a1 :: a2 :: a3 :: a4 :: a5 :: a6 :: a7 :: a8 :: a9 :: a10 :: some (.int x) :: L) st G K
theorem w_is11 {k pc : Nat} (hd : decode (az_code k) pc = .ok (.istore 11, 2)) : T_is11 k pc (pc + 2) := by
  intro xs d a0 a1 a2 a3 a4 a5 a6 a7 a8 a9 a10 b9 x L st G K
  exact az_W_s hd rfl rfl rfl (if_pos (e := none) (show 11 < (a0 :: a1 :: a2 :: a3 :: a4 :: a5 :: a6 :: a7 :: a8 :: a9 :: a10 :: b9 :: L).length by simp))
abbrev T_as11 (k pc nx : Nat) : Prop := ∀ {xs : az_X} {d : Nat} {a0 : Option Value} {a1 : Option Value} {a2 : Option Value} {a3 : Option Value} {a4 : Option Value} {a5 : Option Value} {a6 : Option Value} {a7 : Option Value} {a8 : Option Value} {a9 : Option Value} {a10 : Option Value} {b9 : Option Value} {x : Nat} {L : az_Ls} {st : List Value} {G : az_G} {K : az_O → Prop}, az_W xs d k pc (a0 :: a1 :: a2 :: a3 :: a4 :: a5 :: a6 :: a7 :: a8 :: a9 :: a10 :: b9 :: L) (.ref x :: st) G K ↔ az_W xs d k nx (a0 :: a1 :: a2 :: a3 :: a4 :: a5 :: a6 :: a7 :: a8 :: a9 :: a10 :: some (.ref x) :: L) st G K
theorem w_as11 {k pc : Nat} (hd : decode (az_code k) pc = .ok (.astore 11, 2)) : T_as11 k pc (pc + 2) := by
  intro xs d a0 a1 a2 a3 a4 a5 a6 a7 a8 a9 a10 b9 x L st G K
  exact az_W_s hd rfl rfl rfl (if_pos (e := none) (show 11 < (a0 :: a1 :: a2 :: a3 :: a4 :: a5 :: a6 :: a7 :: a8 :: a9 :: a10 :: b9 :: L).length by simp))
abbrev T_inc11 (k pc nx : Nat) (v : Int32) : Prop := ∀ {xs : az_X} {d : Nat} {a0 : Option Value} {a1 : Option Value} {a2 : Option Value} {a3 : Option Value} {a4 : Option Value} {a5 : Option Value} {a6 : Option Value} {a7 : Option Value} {a8 : Option Value} {a9 : Option Value} {a10 : Option Value} {x : Int32} {L : az_Ls} {st : List Value} {G : az_G} {K : az_O → Prop}, az_W xs d k pc (a0 :: a1 :: a2 :: a3 :: a4 :: a5 :: a6 :: a7 :: a8 :: a9 :: a10 :: some (.int x) :: L) st G K ↔ az_W xs d k nx (a0 :: a1 :: a2 :: a3 :: a4 :: a5 :: a6 :: a7 :: a8 :: a9 :: a10 :: some (.int (x + v)) :: L) st G K
theorem w_inc11 {k pc : Nat} {c : Int} {v : Int32} (hd : decode (az_code k) pc = .ok (.iinc 11 c, 3)) (hv : Int32.ofInt c = v) : T_inc11 k pc (pc + 3) v := by
  intros
  subst hv
  exact az_W_s hd rfl rfl rfl rfl
abbrev T_iadd (k pc nx : Nat) : Prop := ∀ {xs : az_X} {d : Nat} {x y : Int32} {L : az_Ls} {st : List Value} {G : az_G} {K : az_O → Prop}, az_W xs d k pc L (.int y :: .int x :: st) G K ↔ az_W xs d k nx L (.int (x + y) :: st) G K
theorem w_iadd {k pc : Nat} (hd : decode (az_code k) pc = .ok (.iadd, 1)) : T_iadd k pc (pc + 1) := by
  intros
  exact az_W_s hd rfl rfl rfl rfl
abbrev T_isub (k pc nx : Nat) : Prop := ∀ {xs : az_X} {d : Nat} {x y : Int32} {L : az_Ls} {st : List Value} {G : az_G} {K : az_O → Prop}, az_W xs d k pc L (.int y :: .int x :: st) G K ↔ az_W xs d k nx L (.int (x - y) :: st) G K
theorem w_isub {k pc : Nat} (hd : decode (az_code k) pc = .ok (.isub, 1)) : T_isub k pc (pc + 1) := by
  intros
  exact az_W_s hd rfl rfl rfl rfl
abbrev T_imul (k pc nx : Nat) : Prop := ∀ {xs : az_X} {d : Nat} {x y : Int32} {L : az_Ls} {st : List Value} {G : az_G} {K : az_O → Prop}, az_W xs d k pc L (.int y :: .int x :: st) G K ↔ az_W xs d k nx L (.int (x * y) :: st) G K
theorem w_imul {k pc : Nat} (hd : decode (az_code k) pc = .ok (.imul, 1)) : T_imul k pc (pc + 1) := by
  intros
  exact az_W_s hd rfl rfl rfl rfl
abbrev T_iand (k pc nx : Nat) : Prop := ∀ {xs : az_X} {d : Nat} {x y : Int32} {L : az_Ls} {st : List Value} {G : az_G} {K : az_O → Prop}, az_W xs d k pc L (.int y :: .int x :: st) G K ↔ az_W xs d k nx L (.int (x &&& y) :: st) G K
theorem w_iand {k pc : Nat} (hd : decode (az_code k) pc = .ok (.iand, 1)) : T_iand k pc (pc + 1) := by
  intros
  exact az_W_s hd rfl rfl rfl rfl
abbrev T_ior (k pc nx : Nat) : Prop := ∀ {xs : az_X} {d : Nat} {x y : Int32} {L : az_Ls} {st : List Value} {G : az_G} {K : az_O → Prop}, az_W xs d k pc L (.int y :: .int x :: st) G K ↔ az_W xs d k nx L (.int (x ||| y) :: st) G K
theorem w_ior {k pc : Nat} (hd : decode (az_code k) pc = .ok (.ior, 1)) : T_ior k pc (pc + 1) := by
  intros
  exact az_W_s hd rfl rfl rfl rfl
abbrev T_ixor (k pc nx : Nat) : Prop := ∀ {xs : az_X} {d : Nat} {x y : Int32} {L : az_Ls} {st : List Value} {G : az_G} {K : az_O → Prop}, az_W xs d k pc L (.int y :: .int x :: st) G K ↔ az_W xs d k nx L (.int (x ^^^ y) :: st) G K
theorem w_ixor {k pc : Nat} (hd : decode (az_code k) pc = .ok (.ixor, 1)) : T_ixor k pc (pc + 1) := by
  intros
  exact az_W_s hd rfl rfl rfl rfl
abbrev T_ishl (k pc nx : Nat) : Prop := ∀ {xs : az_X} {d : Nat} {x y : Int32} {L : az_Ls} {st : List Value} {G : az_G} {K : az_O → Prop}, az_W xs d k pc L (.int y :: .int x :: st) G K ↔ az_W xs d k nx L (.int (x <<< (y &&& 31)) :: st) G K
theorem w_ishl {k pc : Nat} (hd : decode (az_code k) pc = .ok (.ishl, 1)) : T_ishl k pc (pc + 1) := by
  intros
  exact az_W_s hd rfl rfl rfl rfl
abbrev T_ishr (k pc nx : Nat) : Prop := ∀ {xs : az_X} {d : Nat} {x y : Int32} {L : az_Ls} {st : List Value} {G : az_G} {K : az_O → Prop}, az_W xs d k pc L (.int y :: .int x :: st) G K ↔ az_W xs d k nx L (.int (x >>> (y &&& 31)) :: st) G K
theorem w_ishr {k pc : Nat} (hd : decode (az_code k) pc = .ok (.ishr, 1)) : T_ishr k pc (pc + 1) := by
  intros
  exact az_W_s hd rfl rfl rfl rfl
abbrev T_iushr (k pc nx : Nat) : Prop := ∀ {xs : az_X} {d : Nat} {x y : Int32} {L : az_Ls} {st : List Value} {G : az_G} {K : az_O → Prop}, az_W xs d k pc L (.int y :: .int x :: st) G K ↔ az_W xs d k nx L (.int ((x.toUInt32 >>> (y.toUInt32 &&& Int32.toUInt32 31)).toInt32) :: st) G K
theorem w_iushr {k pc : Nat} (hd : decode (az_code k) pc = .ok (.iushr, 1)) : T_iushr k pc (pc + 1) := by
  intros
  exact az_W_s hd rfl rfl rfl rfl
abbrev T_idiv (k pc nx : Nat) : Prop := ∀ {xs : az_X} {d : Nat} {x y : Int32} {L : az_Ls} {st : List Value} {G : az_G} {K : az_O → Prop}, az_W xs d k pc L (.int y :: .int x :: st) G K ↔ ¬ y = 0 ∧ az_W xs d k nx L (.int (x / y) :: st) G K
theorem w_idiv {k pc : Nat} (hd : decode (az_code k) pc = .ok (.idiv, 1)) : T_idiv k pc (pc + 1) := by
  intros
  exact az_W_c hd rfl rfl rfl (fun h => if_neg h) (fun h => if_pos (Classical.not_not.mp h))
abbrev T_irem (k pc nx : Nat) : Prop := ∀ {xs : az_X} {d : Nat} {x y : Int32} {L : az_Ls} {st : List Value} {G : az_G} {K : az_O → Prop}, az_W xs d k pc L (.int y :: .int x :: st) G K ↔ ¬ y = 0 ∧ az_W xs d k nx L (.int (x - x / y * y) :: st) G K
theorem w_irem {k pc : Nat} (hd : decode (az_code k) pc = .ok (.irem, 1)) : T_irem k pc (pc + 1) := by
  intros
  exact az_W_c hd rfl rfl rfl (fun h => if_neg h) (fun h => if_pos (Classical.not_not.mp h))
abbrev T_ineg (k pc nx : Nat) : Prop := ∀ {xs : az_X} {d : Nat} {x : Int32} {L : az_Ls} {st : List Value} {G : az_G} {K : az_O → Prop}, az_W xs d k pc L (.int x :: st) G K ↔ az_W xs d k nx L (.int (-x) :: st) G K
theorem w_ineg {k pc : Nat} (hd : decode (az_code k) pc = .ok (.ineg, 1)) : T_ineg k pc (pc + 1) := by
  intros
  exact az_W_s hd rfl rfl rfl rfl
abbrev T_i2l (k pc nx : Nat) : Prop := ∀ {xs : az_X} {d : Nat} {x : Int32} {L : az_Ls} {st : List Value} {G : az_G} {K : az_O → Prop}, az_W xs d k pc L (.int x :: st) G K ↔ az_W xs d k nx L (.long x.toInt64 :: st) G K
theorem w_i2l {k pc : Nat} (hd : decode (az_code k) pc = .ok (.i2l, 1)) : T_i2l k pc (pc + 1) := by
  intros
  exact az_W_s hd rfl rfl rfl rfl
abbrev T_lcmp (k pc nx : Nat) : Prop := ∀ {xs : az_X} {d : Nat} {x y : Int64} {L : az_Ls} {st : List Value} {G : az_G} {K : az_O → Prop}, az_W xs d k pc L (.long y :: .long x :: st) G K ↔ az_W xs d k nx L (.int (lg_cmp x y) :: st) G K
theorem w_lcmp {k pc : Nat} (hd : decode (az_code k) pc = .ok (.lcmp, 1)) : T_lcmp k pc (pc + 1) := by
  intros
  exact az_W_s hd rfl rfl rfl rfl
theorem az_br_iff {xs : az_X} {d k pc tgt : Nat} {i : Instr} {len : Nat} {b : Bool} {off : Int} {L : az_Ls} {st r : List Value} {G : az_G} {K : az_O → Prop} {c : Prop} [Decidable c] (hd : decode (az_code k) pc = .ok (i, len)) (hil : az_il i len = true) (he : az_end k i pc st G = none) (hc : az_cal k i st G.1 = none)
    (hs : az_stp xs k i pc (pc + len) L st G = az_br b off pc (pc + len) L r G) (ht : (pc : Int) + off = (tgt : Int)) (hb : b = decide c) : az_W xs d k pc L st G K ↔ if c then az_W xs d k tgt L r G K else az_W xs d k (pc + len) L r G K := by
  have h0 : 0 ≤ (pc : Int) + off := by rw [ht]; exact Int.natCast_nonneg _
  have ht' : ((pc : Int) + off).toNat = tgt := by rw [ht]; rfl
  unfold az_br at hs
  rw [if_pos h0, ht'] at hs
  by_cases h : c
  · rw [if_pos h]
    rw [if_pos (by rw [hb]; exact decide_eq_true h)] at hs
    exact az_W_s hd hil he hc hs
  · rw [if_neg h]
    rw [if_neg (by rw [hb]; simp [h])] at hs
    exact az_W_s hd hil he hc hs
abbrev T_if_eq (k pc nx tgt : Nat) : Prop := ∀ {xs : az_X} {d : Nat} {x : Int32} {L : az_Ls} {st : List Value} {G : az_G} {K : az_O → Prop}, az_W xs d k pc L (.int x :: st) G K ↔ if x = 0 then az_W xs d k tgt L st G K else az_W xs d k nx L st G K
theorem w_if_eq {k pc tgt : Nat} {off : Int} (hd : decode (az_code k) pc = .ok (.ifCond .eq off, 3)) (ht : (pc : Int) + off = (tgt : Int)) : T_if_eq k pc (pc + 3) tgt := by
  intros
  exact az_br_iff hd rfl rfl rfl rfl ht rfl
abbrev T_ic_eq (k pc nx tgt : Nat) : Prop := ∀ {xs : az_X} {d : Nat} {x y : Int32} {L : az_Ls} {st : List Value} {G : az_G} {K : az_O → Prop}, az_W xs d k pc L (.int y :: .int x :: st) G K ↔ if x = y then az_W xs d k tgt L st G K else az_W xs d k nx L st G K
theorem w_ic_eq {k pc tgt : Nat} {off : Int} (hd : decode (az_code k) pc = .ok (.if_icmp .eq off, 3)) (ht : (pc : Int) + off = (tgt : Int)) : T_ic_eq k pc (pc + 3) tgt := by
  intros
  exact az_br_iff hd rfl rfl rfl rfl ht rfl
abbrev T_if_ne (k pc nx tgt : Nat) : Prop := ∀ {xs : az_X} {d : Nat} {x : Int32} {L : az_Ls} {st : List Value} {G : az_G} {K : az_O → Prop}, az_W xs d k pc L (.int x :: st) G K ↔ if ¬ x = 0 then az_W xs d k tgt L st G K else az_W xs d k nx L st G K
theorem w_if_ne {k pc tgt : Nat} {off : Int} (hd : decode (az_code k) pc = .ok (.ifCond .ne off, 3)) (ht : (pc : Int) + off = (tgt : Int)) : T_if_ne k pc (pc + 3) tgt := by
  intros
  exact az_br_iff hd rfl rfl rfl rfl ht rfl
abbrev T_ic_ne (k pc nx tgt : Nat) : Prop := ∀ {xs : az_X} {d : Nat} {x y : Int32} {L : az_Ls} {st : List Value} {G : az_G} {K : az_O → Prop}, az_W xs d k pc L (.int y :: .int x :: st) G K ↔ if ¬ x = y then az_W xs d k tgt L st G K else az_W xs d k nx L st G K
theorem w_ic_ne {k pc tgt : Nat} {off : Int} (hd : decode (az_code k) pc = .ok (.if_icmp .ne off, 3)) (ht : (pc : Int) + off = (tgt : Int)) : T_ic_ne k pc (pc + 3) tgt := by
  intros
  exact az_br_iff hd rfl rfl rfl rfl ht rfl
abbrev T_if_lt (k pc nx tgt : Nat) : Prop := ∀ {xs : az_X} {d : Nat} {x : Int32} {L : az_Ls} {st : List Value} {G : az_G} {K : az_O → Prop}, az_W xs d k pc L (.int x :: st) G K ↔ if x < 0 then az_W xs d k tgt L st G K else az_W xs d k nx L st G K
theorem w_if_lt {k pc tgt : Nat} {off : Int} (hd : decode (az_code k) pc = .ok (.ifCond .lt off, 3)) (ht : (pc : Int) + off = (tgt : Int)) : T_if_lt k pc (pc + 3) tgt := by
  intros
  exact az_br_iff hd rfl rfl rfl rfl ht rfl
abbrev T_ic_lt (k pc nx tgt : Nat) : Prop := ∀ {xs : az_X} {d : Nat} {x y : Int32} {L : az_Ls} {st : List Value} {G : az_G} {K : az_O → Prop}, az_W xs d k pc L (.int y :: .int x :: st) G K ↔ if x < y then az_W xs d k tgt L st G K else az_W xs d k nx L st G K
theorem w_ic_lt {k pc tgt : Nat} {off : Int} (hd : decode (az_code k) pc = .ok (.if_icmp .lt off, 3)) (ht : (pc : Int) + off = (tgt : Int)) : T_ic_lt k pc (pc + 3) tgt := by
  intros
  exact az_br_iff hd rfl rfl rfl rfl ht rfl
abbrev T_if_ge (k pc nx tgt : Nat) : Prop := ∀ {xs : az_X} {d : Nat} {x : Int32} {L : az_Ls} {st : List Value} {G : az_G} {K : az_O → Prop}, az_W xs d k pc L (.int x :: st) G K ↔ if 0 ≤ x then az_W xs d k tgt L st G K else az_W xs d k nx L st G K
theorem w_if_ge {k pc tgt : Nat} {off : Int} (hd : decode (az_code k) pc = .ok (.ifCond .ge off, 3)) (ht : (pc : Int) + off = (tgt : Int)) : T_if_ge k pc (pc + 3) tgt := by
  intros
  exact az_br_iff hd rfl rfl rfl rfl ht rfl
abbrev T_ic_ge (k pc nx tgt : Nat) : Prop := ∀ {xs : az_X} {d : Nat} {x y : Int32} {L : az_Ls} {st : List Value} {G : az_G} {K : az_O → Prop}, az_W xs d k pc L (.int y :: .int x :: st) G K ↔ if y ≤ x then az_W xs d k tgt L st G K else az_W xs d k nx L st G K
theorem w_ic_ge {k pc tgt : Nat} {off : Int} (hd : decode (az_code k) pc = .ok (.if_icmp .ge off, 3)) (ht : (pc : Int) + off = (tgt : Int)) : T_ic_ge k pc (pc + 3) tgt := by
  intros
  exact az_br_iff hd rfl rfl rfl rfl ht rfl
abbrev T_if_gt (k pc nx tgt : Nat) : Prop := ∀ {xs : az_X} {d : Nat} {x : Int32} {L : az_Ls} {st : List Value} {G : az_G} {K : az_O → Prop}, az_W xs d k pc L (.int x :: st) G K ↔ if 0 < x then az_W xs d k tgt L st G K else az_W xs d k nx L st G K
theorem w_if_gt {k pc tgt : Nat} {off : Int} (hd : decode (az_code k) pc = .ok (.ifCond .gt off, 3)) (ht : (pc : Int) + off = (tgt : Int)) : T_if_gt k pc (pc + 3) tgt := by
  intros
  exact az_br_iff hd rfl rfl rfl rfl ht rfl
abbrev T_ic_gt (k pc nx tgt : Nat) : Prop := ∀ {xs : az_X} {d : Nat} {x y : Int32} {L : az_Ls} {st : List Value} {G : az_G} {K : az_O → Prop}, az_W xs d k pc L (.int y :: .int x :: st) G K ↔ if y < x then az_W xs d k tgt L st G K else az_W xs d k nx L st G K
theorem w_ic_gt {k pc tgt : Nat} {off : Int} (hd : decode (az_code k) pc = .ok (.if_icmp .gt off, 3)) (ht : (pc : Int) + off = (tgt : Int)) : T_ic_gt k pc (pc + 3) tgt := by
  intros
  exact az_br_iff hd rfl rfl rfl rfl ht rfl
abbrev T_if_le (k pc nx tgt : Nat) : Prop := ∀ {xs : az_X} {d : Nat} {x : Int32} {L : az_Ls} {st : List Value} {G : az_G} {K : az_O → Prop}, az_W xs d k pc L (.int x :: st) G K ↔ if x ≤ 0 then az_W xs d k tgt L st G K else az_W xs d k nx L st G K
theorem w_if_le {k pc tgt : Nat} {off : Int} (hd : decode (az_code k) pc = .ok (.ifCond .le off, 3)) (ht : (pc : Int) + off = (tgt : Int)) : T_if_le k pc (pc + 3) tgt := by
  intros
  exact az_br_iff hd rfl rfl rfl rfl ht rfl
abbrev T_ic_le (k pc nx tgt : Nat) : Prop := ∀ {xs : az_X} {d : Nat} {x y : Int32} {L : az_Ls} {st : List Value} {G : az_G} {K : az_O → Prop}, az_W xs d k pc L (.int y :: .int x :: st) G K ↔ if x ≤ y then az_W xs d k tgt L st G K else az_W xs d k nx L st G K
theorem w_ic_le {k pc tgt : Nat} {off : Int} (hd : decode (az_code k) pc = .ok (.if_icmp .le off, 3)) (ht : (pc : Int) + off = (tgt : Int)) : T_ic_le k pc (pc + 3) tgt := by
  intros
  exact az_br_iff hd rfl rfl rfl rfl ht rfl
abbrev T_goto (k pc tgt : Nat) : Prop := ∀ {xs : az_X} {d : Nat} {L : az_Ls} {st : List Value} {G : az_G} {K : az_O → Prop}, az_W xs d k pc L st G K ↔ az_W xs d k tgt L st G K
theorem w_goto {k pc tgt : Nat} {off : Int} (hd : decode (az_code k) pc = .ok (.goto off, 3)) (ht : (pc : Int) + off = (tgt : Int)) : T_goto k pc tgt := by
  intros
  exact (az_br_iff (c := True) hd rfl rfl rfl rfl ht rfl).trans (by rw [if_pos trivial])
def az_tsf (ts : List Nat) (dt : Nat) (x : Int32) : Nat := if x.toInt < 0 ∨ (ts.length : Int) ≤ x.toInt then dt else ts.getD x.toInt.toNat dt
abbrev T_tsw (k pc : Nat) (ts : List Nat) (dt : Nat) : Prop := ∀ {xs : az_X} {d : Nat} {x : Int32} {L : az_Ls} {st : List Value} {G : az_G} {K : az_O → Prop}, az_W xs d k pc L (.int x :: st) G K ↔ az_W xs d k (az_tsf ts dt x) L st G K
def az_tok (pc : Nat) (offs : Array Int) (ts : List Nat) : Bool := decide (offs.size = ts.length) && (List.range ts.length).all fun j => decide (offs[j]? = some ((ts.getD j 0 : Nat) - (pc : Int)))
theorem w_tsw {k pc len dt : Nat} {dd hi : Int} {offs : Array Int} {ts : List Nat} (hd : decode (az_code k) pc = .ok (.tableswitch dd 0 hi offs, len)) (h1 : (pc : Int) + dd = (dt : Int)) (h2 : hi + 1 = (ts.length : Int)) (h3 : az_tok pc offs ts = true) : T_tsw k pc ts dt := by
  intro xs d x L st G K
  unfold az_tok at h3
  simp only [Bool.and_eq_true, decide_eq_true_eq, List.all_eq_true, List.mem_range] at h3
  obtain ⟨hsz, hall⟩ := h3
  have hs : az_stp xs k (.tableswitch dd 0 hi offs) pc (pc + len) L (.int x :: st) G = some (az_tsf ts dt x, L, st, G) := by
    show az_tsw dd 0 hi offs pc L (.int x :: st) G = _
    unfold az_tsw az_tsf
    by_cases hx : x.toInt < 0 ∨ hi < x.toInt
    · have hx' : x.toInt < 0 ∨ (ts.length : Int) ≤ x.toInt := by omega
      dsimp only
      rw [if_pos hx, if_pos hx']
      unfold az_br
      rw [if_pos (by rw [h1]; exact Int.natCast_nonneg _), h1]
      rfl
    · have hx' : ¬ (x.toInt < 0 ∨ (ts.length : Int) ≤ x.toInt) := by omega
      dsimp only
      rw [if_neg hx, if_neg hx']
      have hj : (x.toInt - 0).toNat < ts.length := by omega
      rw [hall _ hj]
      dsimp only
      unfold az_br
      have e1 : (pc : Int) + ((ts.getD (x.toInt - 0).toNat 0 : Nat) - (pc : Int)) = (ts.getD (x.toInt - 0).toNat 0 : Nat) := by omega
      rw [e1, if_pos (Int.natCast_nonneg _)]
      have e2 : ts.getD (x.toInt - 0).toNat 0 = ts.getD x.toInt.toNat dt := by
        rw [show x.toInt - 0 = x.toInt by omega]
        have hj' : x.toInt.toNat < ts.length := by omega
        rw [List.getD, List.getD, List.getElem?_eq_getElem hj']
        rfl
      rw [e2]
      rfl
  exact az_W_s hd rfl rfl rfl hs
abbrev T_dup (k pc nx : Nat) : Prop := ∀ {xs : az_X} {d : Nat} {v : Value} {L : az_Ls} {st : List Value} {G : az_G} {K : az_O → Prop}, az_W xs d k pc L (v :: st) G K ↔ v.category = 1 ∧ az_W xs d k nx L (v :: v :: st) G K
theorem w_dup {k pc : Nat} (hd : decode (az_code k) pc = .ok (.dup, 1)) : T_dup k pc (pc + 1) := by
  intros
  exact az_W_c hd rfl rfl rfl (fun h => if_pos h) (fun h => if_neg h)
abbrev T_dup2 (k pc nx : Nat) : Prop := ∀ {xs : az_X} {d : Nat} {v w : Value} {L : az_Ls} {st : List Value} {G : az_G} {K : az_O → Prop}, az_W xs d k pc L (v :: w :: st) G K ↔ (v.category = 1 ∧ w.category = 1) ∧ az_W xs d k nx L (v :: w :: v :: w :: st) G K
theorem w_dup2 {k pc : Nat} (hd : decode (az_code k) pc = .ok (.dup2, 1)) : T_dup2 k pc (pc + 1) := by
  intros
  exact az_W_c hd rfl rfl rfl (fun h => if_pos h) (fun h => if_neg h)
abbrev T_gf (k pc nx ci j : Nat) : Prop := ∀ {xs : az_X} {d : Nat} {a : Nat} {L : az_Ls} {st : List Value} {S : List az_Shp} {I : Nat → Nat → Int32} {Z : (Nat → Nat → Int64) × Nat × Nat} {K : az_O → Prop}, az_W xs d k pc L (.ref a :: st) (S, I, Z) K ↔ ∃ v, az_gfl S I a ci j = some v ∧ az_W xs d k nx L (v :: st) (S, I, Z) K
theorem w_gf {k pc x ci j : Nat} (hd : decode (az_code k) pc = .ok (.getfield x, 3)) (hl : az_lk (az_own k) x = some (0, ci, j)) : T_gf k pc (pc + 3) ci j := by
  intro xs d a L st S I Z K
  cases hv : az_gfl S I a ci j with
  | none =>
    constructor
    · rintro ⟨f, o, h1, -⟩
      cases f with
      | zero => cases h1
      | succ f =>
        rw [az_run_s hd rfl rfl rfl] at h1
        have hs : az_stp xs k (.getfield x) pc (pc + 3) L (.ref a :: st) (S, I, Z) = none := by
          show az_gf k x (pc + 3) L (.ref a :: st) (S, I, Z) = none
          unfold az_gf
          rw [hl]
          show (match az_gfl S I a ci j with | some v => some (pc + 3, L, v :: st, (S, I, Z)) | none => none) = none
          rw [hv]
        rw [hs] at h1
        cases h1
    · rintro ⟨v, h, -⟩
      cases h
  | some v =>
    have hs : az_stp xs k (.getfield x) pc (pc + 3) L (.ref a :: st) (S, I, Z) = some (pc + 3, L, v :: st, (S, I, Z)) := by
      show az_gf k x (pc + 3) L (.ref a :: st) (S, I, Z) = _
      unfold az_gf
      rw [hl]
      show (match az_gfl S I a ci j with | some v => some (pc + 3, L, v :: st, (S, I, Z)) | none => none) = _
      rw [hv]
    rw [az_W_s hd rfl rfl rfl hs]
    constructor
    · exact fun h => ⟨v, rfl, h⟩
    · rintro ⟨w, h, hw⟩
      cases h
      exact hw
abbrev T_pf (k pc nx ci j : Nat) : Prop := ∀ {xs : az_X} {d : Nat} {v : Int32} {a : Nat} {L : az_Ls} {st : List Value} {S : List az_Shp} {I : Nat → Nat → Int32} {Z : (Nat → Nat → Int64) × Nat × Nat} {K : az_O → Prop}, az_W xs d k pc L (.int v :: .ref a :: st) (S, I, Z) K ↔ az_pfi S k a ci j = true ∧ az_W xs d k nx L st (S, az_up I a j v, Z) K
theorem w_pf {k pc x ci j : Nat} (hd : decode (az_code k) pc = .ok (.putfield x, 3)) (hl : az_lk (az_own k) x = some (0, ci, j)) : T_pf k pc (pc + 3) ci j := by
  intro xs d v a L st S I Z K
  have hs : az_stp xs k (.putfield x) pc (pc + 3) L (.int v :: .ref a :: st) (S, I, Z) = if az_pfi S k a ci j = true then some (pc + 3, L, st, (S, az_up I a j v, Z)) else none := by
    show az_pf k x (pc + 3) L (.int v :: .ref a :: st) (S, I, Z) = _
    unfold az_pf
    rw [hl]
    rfl
  exact az_W_c hd rfl rfl rfl (fun h => hs.trans (if_pos h)) (fun h => hs.trans (if_neg h))
abbrev T_pr (k pc nx ci j : Nat) : Prop := ∀ {xs : az_X} {d : Nat} {v : Nat} {a : Nat} {L : az_Ls} {st : List Value} {S : List az_Shp} {I : Nat → Nat → Int32} {Z : (Nat → Nat → Int64) × Nat × Nat} {K : az_O → Prop}, az_W xs d k pc L (.ref v :: .ref a :: st) (S, I, Z) K ↔ ∃ S2, az_pfr S k a ci j v = some S2 ∧ az_W xs d k nx L st (S2, I, Z) K
theorem w_pr {k pc x ci j : Nat} (hd : decode (az_code k) pc = .ok (.putfield x, 3)) (hl : az_lk (az_own k) x = some (0, ci, j)) : T_pr k pc (pc + 3) ci j := by
  intro xs d v a L st S I Z K
  cases hv : az_pfr S k a ci j v with
  | none =>
    constructor
    · rintro ⟨f, o, h1, -⟩
      cases f with
      | zero => cases h1
      | succ f =>
        rw [az_run_s hd rfl rfl rfl] at h1
        have hs : az_stp xs k (.putfield x) pc (pc + 3) L (.ref v :: .ref a :: st) (S, I, Z) = none := by
          show az_pf k x (pc + 3) L (.ref v :: .ref a :: st) (S, I, Z) = none
          unfold az_pf
          rw [hl]
          show (match az_pfr S k a ci j v with | some S2 => some (pc + 3, L, st, (S2, I, Z)) | none => none) = none
          rw [hv]
        rw [hs] at h1
        cases h1
    · rintro ⟨v, h, -⟩
      cases h
  | some S2 =>
    have hs : az_stp xs k (.putfield x) pc (pc + 3) L (.ref v :: .ref a :: st) (S, I, Z) = some (pc + 3, L, st, (S2, I, Z)) := by
      show az_pf k x (pc + 3) L (.ref v :: .ref a :: st) (S, I, Z) = _
      unfold az_pf
      rw [hl]
      show (match az_pfr S k a ci j v with | some S2 => some (pc + 3, L, st, (S2, I, Z)) | none => none) = _
      rw [hv]
    rw [az_W_s hd rfl rfl rfl hs]
    constructor
    · exact fun h => ⟨S2, rfl, h⟩
    · rintro ⟨w, h, hw⟩
      cases h
      exact hw
abbrev T_ia (k pc nx : Nat) : Prop := ∀ {xs : az_X} {d : Nat} {i : Int32} {a : Nat} {L : az_Ls} {st : List Value} {S : List az_Shp} {I : Nat → Nat → Int32} {Z : (Nat → Nat → Int64) × Nat × Nat} {K : az_O → Prop}, az_W xs d k pc L (.int i :: .ref a :: st) (S, I, Z) K ↔ az_isA S 1 a i = true ∧ az_W xs d k nx L (.int (I a i.toNatClampNeg) :: st) (S, I, Z) K
theorem w_ia {k pc : Nat} (hd : decode (az_code k) pc = .ok (.iaload, 1)) (hk : ¬ az_sk k = true) : T_ia k pc (pc + 1) := by
  intro xs d i a L st S I Z K
  have hs : az_stp xs k .iaload pc (pc + 1) L (.int i :: .ref a :: st) (S, I, Z) = if az_isA S 1 a i = true then some (pc + 1, L, .int (I a i.toNatClampNeg) :: st, (S, I, Z)) else none := by
    show az_ial xs 1 k (pc + 1) L (.int i :: .ref a :: st) (S, I, Z) = _
    unfold az_ial
    dsimp only
    rw [if_neg hk]
  exact az_W_c hd rfl rfl rfl (fun h => hs.trans (if_pos h)) (fun h => hs.trans (if_neg h))
abbrev T_ba (k pc nx : Nat) : Prop := ∀ {xs : az_X} {d : Nat} {i : Int32} {a : Nat} {L : az_Ls} {st : List Value} {S : List az_Shp} {I : Nat → Nat → Int32} {Z : (Nat → Nat → Int64) × Nat × Nat} {K : az_O → Prop}, az_W xs d k pc L (.int i :: .ref a :: st) (S, I, Z) K ↔ az_isA S 2 a i = true ∧ az_W xs d k nx L (.int (I a i.toNatClampNeg) :: st) (S, I, Z) K
theorem w_ba {k pc : Nat} (hd : decode (az_code k) pc = .ok (.baload, 1)) (hk : ¬ az_sk k = true) : T_ba k pc (pc + 1) := by
  intro xs d i a L st S I Z K
  have hs : az_stp xs k .baload pc (pc + 1) L (.int i :: .ref a :: st) (S, I, Z) = if az_isA S 2 a i = true then some (pc + 1, L, .int (I a i.toNatClampNeg) :: st, (S, I, Z)) else none := by
    show az_ial xs 2 k (pc + 1) L (.int i :: .ref a :: st) (S, I, Z) = _
    unfold az_ial
    dsimp only
    rw [if_neg hk]
  exact az_W_c hd rfl rfl rfl (fun h => hs.trans (if_pos h)) (fun h => hs.trans (if_neg h))
abbrev T_sld (k pc nx : Nat) : Prop := ∀ {xs : az_X} {d : Nat} {i : Int32} {L : az_Ls} {st : List Value} {G : az_G} {K : az_O → Prop}, az_W xs d k pc L (.int i :: .ref az_scr :: st) G K ↔ az_in i xs.1 = true ∧ az_W xs d k nx L (.int (xs.2 i.toNatClampNeg) :: st) G K
theorem w_sld {k pc : Nat} (hd : decode (az_code k) pc = .ok (.iaload, 1)) (hk : az_sk k = true) : T_sld k pc (pc + 1) := by
  intro xs d i L st G K
  have hs : az_stp xs k .iaload pc (pc + 1) L (.int i :: .ref az_scr :: st) G = if az_scr = az_scr ∧ az_in i xs.1 = true ∧ 1 = 1 then some (pc + 1, L, .int (xs.2 i.toNatClampNeg) :: st, G) else none := by
    show az_ial xs 1 k (pc + 1) L (.int i :: .ref az_scr :: st) G = _
    unfold az_ial
    dsimp only
    rw [if_pos hk]
  exact az_W_c hd rfl rfl rfl (fun h => hs.trans (if_pos ⟨rfl, h, rfl⟩)) (fun h => hs.trans (if_neg (fun q => h q.2.1)))
abbrev T_slen (k pc nx : Nat) : Prop := ∀ {xs : az_X} {d : Nat} {L : az_Ls} {st : List Value} {G : az_G} {K : az_O → Prop}, az_W xs d k pc L (.ref az_scr :: st) G K ↔ az_W xs d k nx L (.int (Int32.ofNat xs.1) :: st) G K
theorem w_slen {k pc : Nat} (hd : decode (az_code k) pc = .ok (.arraylength, 1)) (hk : az_sk k = true) : T_slen k pc (pc + 1) := by
  intro xs d L st G K
  have hs : az_stp xs k .arraylength pc (pc + 1) L (.ref az_scr :: st) G = some (pc + 1, L, .int (Int32.ofNat xs.1) :: st, G) := by
    show az_len xs k (pc + 1) L (.ref az_scr :: st) G = _
    unfold az_len
    dsimp only
    rw [if_pos hk, if_pos rfl]
  exact az_W_s hd rfl rfl rfl hs
def az_aln (S : List az_Shp) (a : Nat) : Option Nat := match S[a]? with
  | some (1, n, _) => some n
  | _ => none
abbrev T_len (k pc nx : Nat) : Prop := ∀ {xs : az_X} {d : Nat} {a : Nat} {L : az_Ls} {st : List Value} {S : List az_Shp} {I : Nat → Nat → Int32} {Z : (Nat → Nat → Int64) × Nat × Nat} {K : az_O → Prop}, az_W xs d k pc L (.ref a :: st) (S, I, Z) K ↔ ∃ n, az_aln S a = some n ∧ az_W xs d k nx L (.int (Int32.ofNat n) :: st) (S, I, Z) K
theorem w_len {k pc : Nat} (hd : decode (az_code k) pc = .ok (.arraylength, 1)) (hk : ¬ az_sk k = true) : T_len k pc (pc + 1) := by
  intro xs d a L st S I Z K
  have hs : az_stp xs k .arraylength pc (pc + 1) L (.ref a :: st) (S, I, Z) = (az_aln S a).map fun n => (pc + 1, L, .int (Int32.ofNat n) :: st, (S, I, Z)) := by
    show az_len xs k (pc + 1) L (.ref a :: st) (S, I, Z) = _
    unfold az_len az_aln
    dsimp only
    rw [if_neg hk]
    cases S[a]? with
    | none => rfl
    | some sh =>
      obtain ⟨kd, n, sl⟩ := sh
      match kd with
      | 0 => rfl
      | 1 => rfl
      | kd + 2 => rfl
  cases hv : az_aln S a with
  | none =>
    rw [hv] at hs
    constructor
    · rintro ⟨f, o, h1, -⟩
      cases f with
      | zero => cases h1
      | succ f => rw [az_run_s hd rfl rfl rfl, hs] at h1; cases h1
    · rintro ⟨v, h, -⟩
      cases h
  | some v =>
    rw [hv] at hs
    rw [az_W_s hd rfl rfl rfl hs]
    constructor
    · exact fun h => ⟨v, rfl, h⟩
    · rintro ⟨w, h, hw⟩
      cases h
      exact hw
def az_row (S : List az_Shp) (a : Nat) (i : Int32) : Option Nat := match S[a]? with
  | some (4, n, sl) => if az_in i n = true then (match sl[i.toNatClampNeg]? with
    | some (some (some q)) => some q
    | _ => none) else none
  | _ => none
abbrev T_aa (k pc nx : Nat) : Prop := ∀ {xs : az_X} {d : Nat} {i : Int32} {a : Nat} {L : az_Ls} {st : List Value} {S : List az_Shp} {I : Nat → Nat → Int32} {Z : (Nat → Nat → Int64) × Nat × Nat} {K : az_O → Prop}, az_W xs d k pc L (.int i :: .ref a :: st) (S, I, Z) K ↔ ∃ q, az_row S a i = some q ∧ az_W xs d k nx L (.ref q :: st) (S, I, Z) K
theorem w_aa {k pc : Nat} (hd : decode (az_code k) pc = .ok (.aaload, 1)) : T_aa k pc (pc + 1) := by
  intro xs d i a L st S I Z K
  have hs : az_stp xs k .aaload pc (pc + 1) L (.int i :: .ref a :: st) (S, I, Z) = (az_row S a i).map fun q => (pc + 1, L, .ref q :: st, (S, I, Z)) := by
    show az_aal (pc + 1) L (.int i :: .ref a :: st) (S, I, Z) = _
    unfold az_aal az_row
    dsimp only
    cases S[a]? with
    | none => rfl
    | some sh =>
      obtain ⟨kd, n, sl⟩ := sh
      match kd with
      | 0 => rfl
      | 1 => rfl
      | 2 => rfl
      | 3 => rfl
      | 4 =>
        show (if az_in i n = true then _ else _) = Option.map _ (if az_in i n = true then _ else _)
        by_cases h : az_in i n = true
        · rw [if_pos h, if_pos h]
          cases sl[i.toNatClampNeg]? with
          | none => rfl
          | some o =>
            cases o with
            | none => rfl
            | some r => cases r <;> rfl
        · rw [if_neg h, if_neg h]
          rfl
      | kd + 5 => rfl
  cases hv : az_row S a i with
  | none =>
    rw [hv] at hs
    constructor
    · rintro ⟨f, o, h1, -⟩
      cases f with
      | zero => cases h1
      | succ f => rw [az_run_s hd rfl rfl rfl, hs] at h1; cases h1
    · rintro ⟨v, h, -⟩
      cases h
  | some v =>
    rw [hv] at hs
    rw [az_W_s hd rfl rfl rfl hs]
    constructor
    · exact fun h => ⟨v, rfl, h⟩
    · rintro ⟨w, h, hw⟩
      cases h
      exact hw
abbrev T_iast (k pc nx : Nat) : Prop := ∀ {xs : az_X} {d : Nat} {x i : Int32} {a : Nat} {L : az_Ls} {st : List Value} {S : List az_Shp} {I : Nat → Nat → Int32} {Z : (Nat → Nat → Int64) × Nat × Nat} {K : az_O → Prop}, az_W xs d k pc L (.int x :: .int i :: .ref a :: st) (S, I, Z) K ↔ az_isA S 1 a i = true ∧ az_W xs d k nx L st (S, az_up I a i.toNatClampNeg x, Z) K
theorem w_iast {k pc : Nat} (hd : decode (az_code k) pc = .ok (.iastore, 1)) : T_iast k pc (pc + 1) := by
  intros
  exact az_W_c hd rfl rfl rfl (fun h => if_pos h) (fun h => if_neg h)
abbrev T_bast (k pc nx : Nat) : Prop := ∀ {xs : az_X} {d : Nat} {x i : Int32} {a : Nat} {L : az_Ls} {st : List Value} {S : List az_Shp} {I : Nat → Nat → Int32} {Z : (Nat → Nat → Int64) × Nat × Nat} {K : az_O → Prop}, az_W xs d k pc L (.int x :: .int i :: .ref a :: st) (S, I, Z) K ↔ az_isA S 2 a i = true ∧ az_W xs d k nx L st (S, az_up I a i.toNatClampNeg (vp_nar .boolean x), Z) K
theorem w_bast {k pc : Nat} (hd : decode (az_code k) pc = .ok (.bastore, 1)) : T_bast k pc (pc + 1) := by
  intros
  exact az_W_c hd rfl rfl rfl (fun h => if_pos h) (fun h => if_neg h)
abbrev T_new (k pc nx ci : Nat) : Prop := ∀ {xs : az_X} {d : Nat} {L : az_Ls} {st : List Value} {S : List az_Shp} {I : Nat → Nat → Int32} {J : Nat → Nat → Int64} {c z : Nat} {K : az_O → Prop}, az_W xs d k pc L st (S, I, J, c, z) K ↔ S.length < 100000 ∧ az_W xs d k nx L (.ref S.length :: st) (S ++ [(0, ci, az_df ci)], az_clr I S.length, J, c + 1, z + az_N ci) K
theorem w_new {k pc x ci N : Nat} (hd : decode (az_code k) pc = .ok (.new x, 3)) (hl : az_lk (az_own k) x = some (5, ci, N)) (ht : az_thr k pc = none) : T_new k pc (pc + 3) ci := by
  intro xs d L st S I J c z K
  have he : az_end k (.new x) pc st (S, I, J, c, z) = none := by
    unfold az_end
    dsimp only
    split
    · rw [ht]; rfl
    · rfl
  have hs : az_stp xs k (.new x) pc (pc + 3) L st (S, I, J, c, z) = if S.length < 100000 then some (pc + 3, L, .ref S.length :: st, (S ++ [(0, ci, az_df ci)], az_clr I S.length, J, c + 1, z + az_N ci)) else none := by
    show az_new k x (pc + 3) L st (S, I, J, c, z) = _
    unfold az_new
    rw [hl]
    rfl
  exact az_W_c hd rfl he rfl (fun h => hs.trans (if_pos h)) (fun h => hs.trans (if_neg h))
abbrev T_nai (k pc nx : Nat) : Prop := ∀ {xs : az_X} {d : Nat} {n : Int32} {L : az_Ls} {st : List Value} {S : List az_Shp} {I : Nat → Nat → Int32} {J : Nat → Nat → Int64} {c z : Nat} {K : az_O → Prop}, az_W xs d k pc L (.int n :: st) (S, I, J, c, z) K ↔ (¬ n < 0 ∧ n.toNatClampNeg ≤ 100000 ∧ S.length < 100000) ∧ az_W xs d k nx L (.ref S.length :: st) (S ++ [(1, n.toNatClampNeg, [])], az_clr I S.length, az_clrJ J S.length, c + 1, z + n.toNatClampNeg) K
theorem w_nai {k pc : Nat} (hd : decode (az_code k) pc = .ok (.newarray .int, 2)) : T_nai k pc (pc + 2) := by
  intros
  exact az_W_c hd rfl rfl rfl (fun h => if_pos h) (fun h => if_neg h)
abbrev T_naz (k pc nx : Nat) : Prop := ∀ {xs : az_X} {d : Nat} {n : Int32} {L : az_Ls} {st : List Value} {S : List az_Shp} {I : Nat → Nat → Int32} {J : Nat → Nat → Int64} {c z : Nat} {K : az_O → Prop}, az_W xs d k pc L (.int n :: st) (S, I, J, c, z) K ↔ (¬ n < 0 ∧ n.toNatClampNeg ≤ 100000 ∧ S.length < 100000) ∧ az_W xs d k nx L (.ref S.length :: st) (S ++ [(2, n.toNatClampNeg, [])], az_clr I S.length, az_clrJ J S.length, c + 1, z + n.toNatClampNeg) K
theorem w_naz {k pc : Nat} (hd : decode (az_code k) pc = .ok (.newarray .boolean, 2)) : T_naz k pc (pc + 2) := by
  intros
  exact az_W_c hd rfl rfl rfl (fun h => if_pos h) (fun h => if_neg h)
abbrev T_nwm (k pc nx : Nat) : Prop := ∀ {xs : az_X} {d : Nat} {n m : Int32} {L : az_Ls} {st : List Value} {S : List az_Shp} {I : Nat → Nat → Int32} {J : Nat → Nat → Int64} {c z : Nat} {K : az_O → Prop}, az_W xs d k pc L (.int m :: .int n :: st) (S, I, J, c, z) K ↔ (¬ n < 0 ∧ ¬ m < 0 ∧ n.toNatClampNeg ≤ 1000 ∧ m.toNatClampNeg ≤ 1000 ∧ S.length < 100000) ∧ az_W xs d k nx L (.ref S.length :: st) ((S ++ [(4, n.toNatClampNeg, (List.range n.toNatClampNeg).map fun j => some (some (S.length + 1 + j)))]) ++ List.replicate n.toNatClampNeg (1, m.toNatClampNeg, []), az_clr I S.length, J, c + 1 + n.toNatClampNeg, z + n.toNatClampNeg + n.toNatClampNeg * m.toNatClampNeg) K
theorem w_nwm {k pc x a b : Nat} (hd : decode (az_code k) pc = .ok (.multianewarray x 2, 4)) (hl : az_lk (az_own k) x = some (7, a, b)) : T_nwm k pc (pc + 4) := by
  intro xs d n m L st S I J c z K
  refine az_W_c hd rfl rfl rfl (fun h => ?_) (fun h => ?_)
  · show az_nwm k x (pc + 4) L (.int m :: .int n :: st) (S, I, J, c, z) = _
    unfold az_nwm
    rw [hl]
    exact if_pos h
  · show az_nwm k x (pc + 4) L (.int m :: .int n :: st) (S, I, J, c, z) = _
    unfold az_nwm
    rw [hl]
    exact if_neg h
abbrev T_max (k pc nx : Nat) : Prop := ∀ {xs : az_X} {d : Nat} {x y : Int32} {L : az_Ls} {st : List Value} {G : az_G} {K : az_O → Prop}, az_W xs d k pc L (.int y :: .int x :: st) G K ↔ az_cat st ≤ 8 ∧ az_W xs d k nx L (.int (if x < y then y else x) :: st) G K
theorem w_max {k pc x a b : Nat} (hd : decode (az_code k) pc = .ok (.invokestatic x, 3)) (hl : az_lk (az_own k) x = some (2, a, b)) : T_max k pc (pc + 3) := by
  intro xs d u v L st G K
  have hc : az_cal k (.invokestatic x) (.int v :: .int u :: st) G.1 = none := by
    show az_cl1 1 (az_own k) x _ _ = none
    unfold az_cl1
    rw [hl]
    rfl
  refine az_W_c hd rfl rfl hc (fun h => ?_) (fun h => ?_)
  · show az_mth k x (pc + 3) L (.int v :: .int u :: st) G = _
    unfold az_mth
    rw [hl]
    exact if_pos h
  · show az_mth k x (pc + 3) L (.int v :: .int u :: st) G = _
    unfold az_mth
    rw [hl]
    exact if_neg h
abbrev T_min (k pc nx : Nat) : Prop := ∀ {xs : az_X} {d : Nat} {x y : Int32} {L : az_Ls} {st : List Value} {G : az_G} {K : az_O → Prop}, az_W xs d k pc L (.int y :: .int x :: st) G K ↔ az_cat st ≤ 8 ∧ az_W xs d k nx L (.int (if y < x then y else x) :: st) G K
theorem w_min {k pc x a b : Nat} (hd : decode (az_code k) pc = .ok (.invokestatic x, 3)) (hl : az_lk (az_own k) x = some (3, a, b)) : T_min k pc (pc + 3) := by
  intro xs d u v L st G K
  have hc : az_cal k (.invokestatic x) (.int v :: .int u :: st) G.1 = none := by
    show az_cl1 1 (az_own k) x _ _ = none
    unfold az_cl1
    rw [hl]
    rfl
  refine az_W_c hd rfl rfl hc (fun h => ?_) (fun h => ?_)
  · show az_mth k x (pc + 3) L (.int v :: .int u :: st) G = _
    unfold az_mth
    rw [hl]
    exact if_pos h
  · show az_mth k x (pc + 3) L (.int v :: .int u :: st) G = _
    unfold az_mth
    rw [hl]
    exact if_neg h
abbrev T_oin (k pc nx : Nat) : Prop := ∀ {xs : az_X} {d : Nat} {a : Nat} {L : az_Ls} {st : List Value} {G : az_G} {K : az_O → Prop}, az_W xs d k pc L (.ref a :: st) G K ↔ az_cat st ≤ 8 ∧ az_W xs d k nx L st G K
theorem w_oin {k pc x a b : Nat} (hd : decode (az_code k) pc = .ok (.invokespecial x, 3)) (hl : az_lk (az_own k) x = some (4, a, b)) : T_oin k pc (pc + 3) := by
  intro xs d u L st G K
  have hc : az_cal k (.invokespecial x) (.ref u :: st) G.1 = none := by
    show az_cl1 2 (az_own k) x _ _ = none
    unfold az_cl1
    rw [hl]
    rfl
  refine az_W_c hd rfl rfl hc (fun h => ?_) (fun h => ?_)
  · show az_oin k x (pc + 3) L (.ref u :: st) G = _
    unfold az_oin
    rw [hl]
    exact if_pos h
  · show az_oin k x (pc + 3) L (.ref u :: st) G = _
    unfold az_oin
    rw [hl]
    exact if_neg h
def az_bo (v : Int32) : Prop := narrow .boolean (.int v) = .int v
abbrev T_ir (k pc : Nat) : Prop := ∀ {xs : az_X} {d : Nat} {v : Int32} {L : az_Ls} {G : az_G} {K : az_O → Prop}, az_W xs d k pc L [.int v] G K ↔ K (0, some (.int v), G)
theorem w_ir {k pc : Nat} (hd : decode (az_code k) pc = .ok (.ireturn, 1)) (hr : az_rt k = 1) : T_ir k pc := by
  intros
  exact az_W_e hd rfl (if_pos (Or.inl hr))
abbrev T_zr (k pc : Nat) : Prop := ∀ {xs : az_X} {d : Nat} {v : Int32} {L : az_Ls} {G : az_G} {K : az_O → Prop}, az_bo v → (az_W xs d k pc L [.int v] G K ↔ K (0, some (.int v), G))
theorem w_zr {k pc : Nat} (hd : decode (az_code k) pc = .ok (.ireturn, 1)) (hr : az_rt k = 2) : T_zr k pc := by
  intro xs d v L G K h
  exact az_W_e hd rfl (if_pos (Or.inr ⟨hr, h⟩))
abbrev T_rt (k pc : Nat) : Prop := ∀ {xs : az_X} {d : Nat} {L : az_Ls} {G : az_G} {K : az_O → Prop}, az_W xs d k pc L [] G K ↔ K (0, none, G)
theorem w_rt {k pc : Nat} (hd : decode (az_code k) pc = .ok (.return_, 1)) (hr : az_rt k = 0) : T_rt k pc := by
  intros
  exact az_W_e hd rfl (if_pos hr)
abbrev T_th (k pc n : Nat) : Prop := ∀ {xs : az_X} {d : Nat} {L : az_Ls} {S : List az_Shp} {I : Nat → Nat → Int32} {J : Nat → Nat → Int64} {c z : Nat} {K : az_O → Prop}, az_W xs d k pc L [] (S, I, J, c, z) K ↔ K (n, none, (S, I, J, c + 1, z + 6))
theorem w_th {k pc n x : Nat} (hd : decode (az_code k) pc = .ok (.new x, 3)) (ht : az_thr k pc = some n) : T_th k pc n := by
  intros
  refine az_W_e hd rfl ?_
  show (az_thr k pc).map _ = _
  rw [ht]
  rfl
/-- a call's own conditions -/
def az_cc (m : Nat) (S : List az_Shp) (as rest : List Value) : Prop := az_cat rest ≤ 8 ∧ az_cat as.reverse = as.length ∧ (az_kd m = 1 ∨ az_kd m = 3 ∨ az_rcv S m as = true)
theorem az_cal_eq {k x m t kd : Nat} {S : List az_Shp} {as rest : List Value} (hl : az_lk (az_own k) x = some (1, m, t)) (ht : as.length = t) (hk : az_kd m = kd ∨ (kd = 1 ∧ az_kd m = 3)) :
    az_cl1 kd (az_own k) x (as.reverse ++ rest) S = if az_cat rest ≤ 8 ∧ az_cat as.reverse = t ∧ (kd = 1 ∨ az_rcv S m as = true) then some (m, as, rest) else none := by
  unfold az_cl1
  rw [hl]
  show (if t ≤ (as.reverse ++ rest).length ∧ (az_kd m = kd ∨ (kd = 1 ∧ az_kd m = 3)) ∧ az_cat ((as.reverse ++ rest).drop t) ≤ 8 ∧ az_cat ((as.reverse ++ rest).take t) = t ∧ (kd = 1 ∨ az_rcv S m ((as.reverse ++ rest).take t).reverse = true) then some (m, ((as.reverse ++ rest).take t).reverse, (as.reverse ++ rest).drop t) else none) = _
  have h1 : (as.reverse ++ rest).take t = as.reverse := by rw [← ht, ← List.length_reverse, List.take_left]
  have h2 : (as.reverse ++ rest).drop t = rest := by rw [← ht, ← List.length_reverse, List.drop_left]
  rw [h1, h2, List.reverse_reverse]
  have h3 : t ≤ (as.reverse ++ rest).length := by rw [List.length_append, List.length_reverse]; omega
  by_cases h : az_cat rest ≤ 8 ∧ az_cat as.reverse = t ∧ (kd = 1 ∨ az_rcv S m as = true)
  · rw [if_pos h, if_pos ⟨h3, hk, h⟩]
  · rw [if_neg h, if_neg (fun q => h q.2.2)]
theorem az_W_call {xs : az_X} {d k pc x m t : Nat} {L : az_Ls} {as rest : List Value} {G : az_G} {K : az_O → Prop} {i : Instr} (hd : decode (az_code k) pc = .ok (i, 3)) (hl : az_lk (az_own k) x = some (1, m, t)) (ht : as.length = t)
    (hk : (i = .invokevirtual x ∧ az_kd m = 0) ∨ (i = .invokestatic x ∧ (az_kd m = 1 ∨ az_kd m = 3)) ∨ (i = .invokespecial x ∧ az_kd m = 2)) (hcc : az_cc m G.1 as rest) :
    az_W xs d k pc L (as.reverse ++ rest) G K ↔ az_C xs d m as G (az_bk xs d k pc (pc + 3) L rest K) := by
  obtain ⟨c1, c2, c3⟩ := hcc
  rw [ht] at c2
  rcases hk with ⟨rfl, hk⟩ | ⟨rfl, hk⟩ | ⟨rfl, hk⟩
  · refine az_W_k hd rfl rfl ?_
    show az_cl1 0 (az_own k) x _ _ = _
    have h9 : az_rcv G.1 m as = true := c3.elim (fun h => absurd (hk.symm.trans h) (by decide)) (fun h => h.elim (fun h => absurd (hk.symm.trans h) (by decide)) id)
    rw [az_cal_eq hl ht (Or.inl hk), if_pos ⟨c1, c2, Or.inr h9⟩]
  · refine az_W_k hd rfl rfl ?_
    show az_cl1 1 (az_own k) x _ _ = _
    rw [az_cal_eq hl ht (hk.elim Or.inl fun h => Or.inr ⟨rfl, h⟩), if_pos ⟨c1, c2, Or.inl rfl⟩]
  · refine az_W_k hd rfl rfl ?_
    show az_cl1 2 (az_own k) x _ _ = _
    have h9 : az_rcv G.1 m as = true := c3.elim (fun h => absurd (hk.symm.trans h) (by decide)) (fun h => h.elim (fun h => absurd (hk.symm.trans h) (by decide)) id)
    rw [az_cal_eq hl ht (Or.inl hk), if_pos ⟨c1, c2, Or.inr h9⟩]
abbrev T_ca0 (k pc nx m : Nat) : Prop := ∀ {xs : az_X} {d : Nat} {L : az_Ls} {st : List Value} {G : az_G} {K : az_O → Prop}, az_cc m G.1 [] st → (az_W xs d k pc L (st) G K ↔ az_C xs d m [] G (az_bk xs d k pc nx L st K))
theorem w_ca0 {k pc x m : Nat} {i : Instr} (hd : decode (az_code k) pc = .ok (i, 3)) (hl : az_lk (az_own k) x = some (1, m, 0)) (hk : (i = .invokevirtual x ∧ az_kd m = 0) ∨ (i = .invokestatic x ∧ (az_kd m = 1 ∨ az_kd m = 3)) ∨ (i = .invokespecial x ∧ az_kd m = 2)) : T_ca0 k pc (pc + 3) m := by
  intro xs d  L st G K h
  exact az_W_call (as := []) hd hl rfl hk h
abbrev T_ca1 (k pc nx m : Nat) : Prop := ∀ {xs : az_X} {d : Nat} {b0 : Value} {L : az_Ls} {st : List Value} {G : az_G} {K : az_O → Prop}, az_cc m G.1 [b0] st → (az_W xs d k pc L (b0 :: st) G K ↔ az_C xs d m [b0] G (az_bk xs d k pc nx L st K))
theorem w_ca1 {k pc x m : Nat} {i : Instr} (hd : decode (az_code k) pc = .ok (i, 3)) (hl : az_lk (az_own k) x = some (1, m, 1)) (hk : (i = .invokevirtual x ∧ az_kd m = 0) ∨ (i = .invokestatic x ∧ (az_kd m = 1 ∨ az_kd m = 3)) ∨ (i = .invokespecial x ∧ az_kd m = 2)) : T_ca1 k pc (pc + 3) m := by
  intro xs d b0 L st G K h
  exact az_W_call (as := [b0]) hd hl rfl hk h
abbrev T_ca2 (k pc nx m : Nat) : Prop := ∀ {xs : az_X} {d : Nat} {b0 : Value} {b1 : Value} {L : az_Ls} {st : List Value} {G : az_G} {K : az_O → Prop}, az_cc m G.1 [b0, b1] st → (az_W xs d k pc L (b1 :: b0 :: st) G K ↔ az_C xs d m [b0, b1] G (az_bk xs d k pc nx L st K))
theorem w_ca2 {k pc x m : Nat} {i : Instr} (hd : decode (az_code k) pc = .ok (i, 3)) (hl : az_lk (az_own k) x = some (1, m, 2)) (hk : (i = .invokevirtual x ∧ az_kd m = 0) ∨ (i = .invokestatic x ∧ (az_kd m = 1 ∨ az_kd m = 3)) ∨ (i = .invokespecial x ∧ az_kd m = 2)) : T_ca2 k pc (pc + 3) m := by
  intro xs d b0 b1 L st G K h
  exact az_W_call (as := [b0, b1]) hd hl rfl hk h
abbrev T_ca3 (k pc nx m : Nat) : Prop := ∀ {xs : az_X} {d : Nat} {b0 : Value} {b1 : Value} {b2 : Value} {L : az_Ls} {st : List Value} {G : az_G} {K : az_O → Prop}, az_cc m G.1 [b0, b1, b2] st → (az_W xs d k pc L (b2 :: b1 :: b0 :: st) G K ↔ az_C xs d m [b0, b1, b2] G (az_bk xs d k pc nx L st K))
theorem w_ca3 {k pc x m : Nat} {i : Instr} (hd : decode (az_code k) pc = .ok (i, 3)) (hl : az_lk (az_own k) x = some (1, m, 3)) (hk : (i = .invokevirtual x ∧ az_kd m = 0) ∨ (i = .invokestatic x ∧ (az_kd m = 1 ∨ az_kd m = 3)) ∨ (i = .invokespecial x ∧ az_kd m = 2)) : T_ca3 k pc (pc + 3) m := by
  intro xs d b0 b1 b2 L st G K h
  exact az_W_call (as := [b0, b1, b2]) hd hl rfl hk h
abbrev T_ca4 (k pc nx m : Nat) : Prop := ∀ {xs : az_X} {d : Nat} {b0 : Value} {b1 : Value} {b2 : Value} {b3 : Value} {L : az_Ls} {st : List Value} {G : az_G} {K : az_O → Prop}, az_cc m G.1 [b0, b1, b2, b3] st → (az_W xs d k pc L (b3 :: b2 :: b1 :: b0 :: st) G K ↔ az_C xs d m [b0, b1, b2, b3] G (az_bk xs d k pc nx L st K))
theorem w_ca4 {k pc x m : Nat} {i : Instr} (hd : decode (az_code k) pc = .ok (i, 3)) (hl : az_lk (az_own k) x = some (1, m, 4)) (hk : (i = .invokevirtual x ∧ az_kd m = 0) ∨ (i = .invokestatic x ∧ (az_kd m = 1 ∨ az_kd m = 3)) ∨ (i = .invokespecial x ∧ az_kd m = 2)) : T_ca4 k pc (pc + 3) m := by
  intro xs d b0 b1 b2 b3 L st G K h
  exact az_W_call (as := [b0, b1, b2, b3]) hd hl rfl hk h
abbrev T_ca5 (k pc nx m : Nat) : Prop := ∀ {xs : az_X} {d : Nat} {b0 : Value} {b1 : Value} {b2 : Value} {b3 : Value} {b4 : Value} {L : az_Ls} {st : List Value} {G : az_G} {K : az_O → Prop}, az_cc m G.1 [b0, b1, b2, b3, b4] st → (az_W xs d k pc L (b4 :: b3 :: b2 :: b1 :: b0 :: st) G K ↔ az_C xs d m [b0, b1, b2, b3, b4] G (az_bk xs d k pc nx L st K))
theorem w_ca5 {k pc x m : Nat} {i : Instr} (hd : decode (az_code k) pc = .ok (i, 3)) (hl : az_lk (az_own k) x = some (1, m, 5)) (hk : (i = .invokevirtual x ∧ az_kd m = 0) ∨ (i = .invokestatic x ∧ (az_kd m = 1 ∨ az_kd m = 3)) ∨ (i = .invokespecial x ∧ az_kd m = 2)) : T_ca5 k pc (pc + 3) m := by
  intro xs d b0 b1 b2 b3 b4 L st G K h
  exact az_W_call (as := [b0, b1, b2, b3, b4]) hd hl rfl hk h
abbrev T_ca6 (k pc nx m : Nat) : Prop := ∀ {xs : az_X} {d : Nat} {b0 : Value} {b1 : Value} {b2 : Value} {b3 : Value} {b4 : Value} {b5 : Value} {L : az_Ls} {st : List Value} {G : az_G} {K : az_O → Prop}, az_cc m G.1 [b0, b1, b2, b3, b4, b5] st → (az_W xs d k pc L (b5 :: b4 :: b3 :: b2 :: b1 :: b0 :: st) G K ↔ az_C xs d m [b0, b1, b2, b3, b4, b5] G (az_bk xs d k pc nx L st K))
theorem w_ca6 {k pc x m : Nat} {i : Instr} (hd : decode (az_code k) pc = .ok (i, 3)) (hl : az_lk (az_own k) x = some (1, m, 6)) (hk : (i = .invokevirtual x ∧ az_kd m = 0) ∨ (i = .invokestatic x ∧ (az_kd m = 1 ∨ az_kd m = 3)) ∨ (i = .invokespecial x ∧ az_kd m = 2)) : T_ca6 k pc (pc + 3) m := by
  intro xs d b0 b1 b2 b3 b4 b5 L st G K h
  exact az_W_call (as := [b0, b1, b2, b3, b4, b5]) hd hl rfl hk h
abbrev T_ca7 (k pc nx m : Nat) : Prop := ∀ {xs : az_X} {d : Nat} {b0 : Value} {b1 : Value} {b2 : Value} {b3 : Value} {b4 : Value} {b5 : Value} {b6 : Value} {L : az_Ls} {st : List Value} {G : az_G} {K : az_O → Prop}, az_cc m G.1 [b0, b1, b2, b3, b4, b5, b6] st → (az_W xs d k pc L (b6 :: b5 :: b4 :: b3 :: b2 :: b1 :: b0 :: st) G K ↔ az_C xs d m [b0, b1, b2, b3, b4, b5, b6] G (az_bk xs d k pc nx L st K))
theorem w_ca7 {k pc x m : Nat} {i : Instr} (hd : decode (az_code k) pc = .ok (i, 3)) (hl : az_lk (az_own k) x = some (1, m, 7)) (hk : (i = .invokevirtual x ∧ az_kd m = 0) ∨ (i = .invokestatic x ∧ (az_kd m = 1 ∨ az_kd m = 3)) ∨ (i = .invokespecial x ∧ az_kd m = 2)) : T_ca7 k pc (pc + 3) m := by
  intro xs d b0 b1 b2 b3 b4 b5 b6 L st G K h
  exact az_W_call (as := [b0, b1, b2, b3, b4, b5, b6]) hd hl rfl hk h
theorem az_thn_n {xs : az_X} {d k pc n : Nat} {L : az_Ls} {v : Option Value} {G : az_G} {K : az_O → Prop} (h : az_xt k = []) (hk : k ≠ az_main) : az_thn xs d k pc L K (n, v, G) ↔ K (n, none, G) := by
  unfold az_thn az_hnd
  rw [h]
  exact ⟨fun q => q.2, fun q => ⟨⟨rfl, hk⟩, q⟩⟩
theorem az_thn_h {xs : az_X} {d k pc n i nx : Nat} {L : az_Ls} {v : Option Value} {G : az_G} {K : az_O → Prop} (h : az_hnd k pc n = some (i, nx)) : az_thn xs d k pc L K (n, v, G) ↔ az_W xs d k nx (L.set i none) [] G K := by
  unfold az_thn
  dsimp only
  rw [h]
theorem az_bk0 {xs : az_X} {d k pc nx : Nat} {L : az_Ls} {rest : List Value} {K : az_O → Prop} {G : az_G} : az_bk xs d k pc nx L rest K (0, none, G) ↔ az_W xs d k nx L rest G K := by
  unfold az_bk
  rw [if_pos rfl]
  rfl
theorem az_bk1 {xs : az_X} {d k pc nx : Nat} {L : az_Ls} {rest : List Value} {K : az_O → Prop} {v : Value} {G : az_G} : az_bk xs d k pc nx L rest K (0, some v, G) ↔ az_W xs d k nx L (v :: rest) G K := by
  unfold az_bk
  rw [if_pos rfl]
  rfl
theorem az_bkx {xs : az_X} {d k pc nx n : Nat} {L : az_Ls} {rest : List Value} {K : az_O → Prop} {v : Option Value} {G : az_G} (h : n ≠ 0) : az_bk xs d k pc nx L rest K (n, v, G) ↔ az_thn xs d k pc L K (n, v, G) := by
  unfold az_bk
  rw [if_neg h]
