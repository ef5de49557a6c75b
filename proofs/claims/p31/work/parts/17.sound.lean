/-! SOUNDNESS: what the small machine runs, the machine runs -/
theorem az_stp_mono {xs : az_X} {k pc nx : Nat} {i : Instr} {L : az_Ls} {st : List Value} {G : az_G} {q : az_Nx} (hs : az_stp xs k i pc nx L st G = some q) : G.2.2.2.1 ≤ q.2.2.2.2.2.2.1 ∧ G.2.2.2.2 ≤ q.2.2.2.2.2.2.2 := by
  unfold az_stp at hs
  split at hs <;> (try unfold az_b2 at hs) <;> (try unfold az_dv at hs) <;> (try unfold az_ild at hs) <;> (try unfold az_ald at hs) <;> (try unfold az_ist at hs) <;> (try unfold az_ast at hs) <;> (try unfold az_inc at hs) <;> (try unfold az_if1 at hs) <;> (try unfold az_if2 at hs) <;> (try unfold az_tsw at hs) <;> (try unfold az_gf at hs) <;> (try unfold az_pf at hs) <;> (try unfold az_ial at hs) <;> (try unfold az_aal at hs) <;> (try unfold az_iast at hs) <;> (try unfold az_bast at hs) <;> (try unfold az_len at hs) <;> (try unfold az_new at hs) <;> (try unfold az_nwa at hs) <;> (try unfold az_nwm at hs) <;> (try unfold az_mth at hs) <;> (try unfold az_oin at hs) <;> (try unfold az_br at hs) <;> (try (simp only [Option.map_eq_some_iff] at hs; obtain ⟨w9, -, hs⟩ := hs)) <;> (repeat' split at hs) <;> first | (cases hs; done) | (cases hs; exact ⟨Nat.le_refl _, Nat.le_refl _⟩) | (cases hs; exact ⟨Nat.le_add_right _ _, Nat.le_add_right _ _⟩) | (cases hs; exact ⟨Nat.le_trans (Nat.le_add_right _ _) (Nat.le_add_right _ _), Nat.le_trans (Nat.le_add_right _ _) (Nat.le_add_right _ _)⟩) | (subst hs; exact ⟨Nat.le_refl _, Nat.le_refl _⟩)
theorem az_end_mono {k pc : Nat} {i : Instr} {st : List Value} {G : az_G} {o : az_O} (h : az_end k i pc st G = some o) : G.2.2.2.1 ≤ o.2.2.2.2.2.1 ∧ G.2.2.2.2 ≤ o.2.2.2.2.2.2 := by
  unfold az_end at h
  split at h
  · split at h
    · split at h <;> cases h
      exact ⟨Nat.le_refl _, Nat.le_refl _⟩
    · cases h
  · split at h
    · split at h <;> cases h
      exact ⟨Nat.le_refl _, Nat.le_refl _⟩
    · cases h
  · split at h
    · obtain ⟨n, -, rfl⟩ := Option.map_eq_some_iff.mp h
      exact ⟨Nat.le_add_right _ _, Nat.le_add_right _ _⟩
    · cases h
  · cases h
theorem az_run_mono {xs : az_X} : ∀ (f d k pc : Nat) (L : az_Ls) (st : List Value) (G : az_G) (o : az_O), az_run xs f d k pc L st G = some o → G.2.2.2.1 ≤ o.2.2.2.2.2.1 ∧ G.2.2.2.2 ≤ o.2.2.2.2.2.2 := by
  intro f
  induction f with
  | zero => intro d k pc L st G o h; cases h
  | succ f ih =>
    intro d k pc L st G o h
    unfold az_run at h
    split at h
    · split at h
      · split at h
        · rename_i o9 h9
          cases h
          exact az_end_mono h9
        · split at h
          · split at h
            · cases h
            · split at h
              · cases h
              · rename_i o1 h1
                have k1 := ih _ _ _ _ _ _ _ h1
                split at h
                · have k2 := ih _ _ _ _ _ _ _ h
                  exact ⟨Nat.le_trans k1.1 k2.1, Nat.le_trans k1.2 k2.2⟩
                · split at h
                  · have k2 := ih _ _ _ _ _ _ _ h
                    exact ⟨Nat.le_trans k1.1 k2.1, Nat.le_trans k1.2 k2.2⟩
                  · split at h
                    · cases h
                      exact k1
                    · cases h
          · split at h
            · rename_i q hq
              have k1 := az_stp_mono hq
              have k2 := ih _ _ _ _ _ _ _ h
              exact ⟨Nat.le_trans k1.1 k2.1, Nat.le_trans k1.2 k2.2⟩
            · cases h
      · cases h
    · cases h
theorem az_cat_all {l : List Value} (h : az_cat l = l.length) : ∀ v ∈ l, v.category = 1 := by
  have h1 : ∀ v : Value, 1 ≤ v.category := fun v => by cases v <;> simp [Value.category]
  have h2 : ∀ l : List Value, l.length ≤ az_cat l := by
    intro l
    induction l with
    | nil => exact Nat.le_refl _
    | cons a r ih =>
      show r.length + 1 ≤ a.category + az_cat r
      have := h1 a
      omega
  induction l with
  | nil => intro v hv; cases hv
  | cons a r ih =>
    have h3 : a.category + az_cat r = r.length + 1 := h
    have h4 := h1 a
    have h5 := h2 r
    intro v hv
    rcases List.mem_cons.mp hv with e | e
    · rw [e]; omega
    · exact ih (by omega) v e
theorem az_sl1 : ∀ (vs : List Value), (∀ v ∈ vs, v.category = 1) → lg_sl vs = vs.map Slot.val
  | [], _ => rfl
  | a :: r, h => by
    have h1 := h a List.mem_cons_self
    have ih := az_sl1 r (fun v hv => h v (List.mem_cons_of_mem _ hv))
    unfold lg_sl at ih ⊢
    rw [List.flatMap_cons, ih, h1]
    rfl
theorem az_lay_Lr {ad : Nat → Nat} {n m : Nat} {as : List Value} (hc : ∀ v ∈ as, v.category = 1) (hok : ∀ v ∈ as, az_ok n v) (hl : as.length ≤ az_ml m) :
    az_Lr ad n (az_lay m as) ((lg_sl (as.map (az_c ad)) ++ List.replicate (az_ml m - (lg_sl (as.map (az_c ad))).length) Slot.unset).toArray) := by
  have hc' : ∀ v ∈ as.map (az_c ad), v.category = 1 := fun v hv => by
    obtain ⟨w, hw, rfl⟩ := List.mem_map.mp hv
    rw [az_cat1]
    exact hc w hw
  have hsl := az_sl1 _ hc'
  have hlen : (lg_sl (as.map (az_c ad))).length = as.length := by rw [hsl]; simp
  obtain ⟨h1, h2, -⟩ := lv_entry (as.map (az_c ad)) (n := az_ml m) (by rw [hlen]; exact hl)
  have hll : (az_lay m as).length = az_ml m := by simp [az_lay]; omega
  refine ⟨by rw [h1, hll], h2, fun i v hi => ?_⟩
  unfold az_lay at hi
  by_cases hlt : i < as.length
  · rw [List.getElem?_append_left (by simpa using hlt), List.getElem?_map] at hi
    obtain ⟨w, hw, he⟩ := Option.map_eq_some_iff.mp hi
    cases he
    have hm := List.mem_of_getElem? hw
    refine ⟨hc _ hm, hok _ hm, ?_⟩
    rw [List.getElem?_toArray, List.getElem?_append_left (by rw [hlen]; exact hlt), hsl, List.getElem?_map, List.getElem?_map, hw]
    rfl
  · rw [List.getElem?_append_right (by simpa using hlt)] at hi
    have := List.mem_of_getElem? hi
    rw [List.mem_replicate] at this
    cases this.2
theorem az_lay_len {m : Nat} {as : List Value} (hl : as.length ≤ az_ml m) : (az_lay m as).length = az_ml m := by simp [az_lay]; omega
theorem az_xh : ∀ k, k < 100 → az_xt k = [] → az_hh k = [] := by decide +kernel
theorem az_x3 : ∀ k, k < 99 → ¬ az_kd k = 3 → az_xt k = [] := by decide +kernel
/-- what is owed at a frame's ends -/
def az_ends (p : Program) (l : Launch) (e : Env) (R : Room) (s : State) (m : MethodId) (args : Array Value) (below : List Frame) (meth : Method) (c : Code) (Q : State → Prop) (D : va_G) (cy : Nat → ClassId) (A : Nat → Prop) (ad0 : Nat → Nat) (n0 c0 s0 k : Nat) (o : az_O) : Prop :=
  (∀ (pc : Nat) (ad : Nat → Nat) (L : az_Ls) (ls : Array Slot) (v : Int32) (H : Heap) (locs : List Loc) (cells slots : Nat), o.1 = 0 → o.2.1 = some (.int v) → decode (az_code k) pc = .ok (.ireturn, 1) → (az_rt k = 1 ∨ (az_rt k = 2 ∧ narrow .boolean (.int v) = .int v)) → az_at D cy A s.heap ad0 n0 c0 s0 ad L ls [.int v] o.2.2 H locs cells slots → W p l e R s m args below meth c H locs cells slots Q (F0 m pc ls [.int v])) ∧
  (∀ (pc : Nat) (ad : Nat → Nat) (L : az_Ls) (ls : Array Slot) (H : Heap) (locs : List Loc) (cells slots : Nat), o.1 = 0 → o.2.1 = none → decode (az_code k) pc = .ok (.return_, 1) → az_rt k = 0 → az_at D cy A s.heap ad0 n0 c0 s0 ad L ls [] o.2.2 H locs cells slots → W p l e R s m args below meth c H locs cells slots Q (F0 m pc ls [])) ∧
  (∀ (pc n : Nat) (ad : Nat → Nat) (L : az_Ls) (ls : Array Slot) (G : az_G) (H : Heap) (locs : List Loc) (cells slots : Nat), L.length = az_ml k → az_thr k pc = some n → o = (n, none, (G.1, G.2.1, G.2.2.1, G.2.2.2.1 + 1, G.2.2.2.2 + 6)) → az_at D cy A s.heap ad0 n0 c0 s0 ad L ls [] G H locs cells slots → W p l e R s m args below meth c H locs cells slots Q (F0 m pc ls [])) ∧
  (∀ (pc : Nat) (ad : Nat → Nat) (L : az_Ls) (ls : Array Slot) (rest : List Value) (ce : Cell) (q : Addr) (H : Heap) (locs : List Loc) (cells slots : Nat), (1 ≤ o.1 ∧ o.1 ≤ 3) → az_xt k = [] → k ≠ az_main → az_at D cy A s.heap ad0 n0 c0 s0 ad L ls [] o.2.2 H locs cells slots → H[q]? = some ce → ce.vm = .none → s.vm.findClass (az_xn o.1) = some ce.cls → vx_W p l e R s m args below meth c H locs cells slots Q (F0 m pc ls rest) q)
/-- what a run says of the machine -/
def az_say (xs : az_X) (l : Launch) (f : Nat) : Prop :=
  ∀ (d k pc : Nat) (L : az_Ls) (st : List Value) (G : az_G) (o : az_O), az_run xs f d k pc L st G = some o →
    ∀ (p : Program) (e : Env) (R : Room) (s : State) (m : MethodId) (args : Array Value) (below : List Frame) (meth : Method) (c : Code) (Q : State → Prop) (D : va_G) (cy : Nat → ClassId) (A : Nat → Prop) (ad0 : Nat → Nat) (n0 c0 s0 : Nat),
      (d + 8 ≤ R.frames ∧ 60 * d + 200 ≤ R.locals) → az_K p s m args meth c xs k D cy A ad0 → az_sf A s → meth.locks = false → (k ≠ az_main → c.exceptionTable.toList = tableOf (az_hh k)) → L.length = az_ml k → k < 100 → (o.2.2.2.2.2.1 ≤ c0 + R.cells ∧ o.2.2.2.2.2.2 ≤ s0 + R.slots) →
      az_ends p l e R s m args below meth c Q D cy A ad0 n0 c0 s0 k o → az_kk p l e R s m args below meth c Q D cy A ad0 n0 c0 s0 (pc, L, st, G)
/-- a method's contract out of a run of it -/
theorem az_met {xs : az_X} {l : Launch} {f d m : Nat} {as : List Value} {G : az_G} {o : az_O} (hlt : l.stackTraces = false) (ih : az_say xs l f) (hr : az_run xs f d m 0 (az_lay m as) [] G = some o) (hm : m < 99) (D : va_G) (cy : Nat → ClassId) (A : Nat → Prop) (ad : Nat → Nat)
    (hc : ∀ v ∈ as, v.category = 1) (hok : ∀ v ∈ as, az_ok G.1.length v) (hl : as.length ≤ az_ml m) (hwf : az_wf G.1) (hn : G.1.length ≤ 300000) :
    vx_Met l (az_y m) (az_ws m) (az_rm d (o.2.2.2.2.2.1 - G.2.2.2.1) (o.2.2.2.2.2.2 - G.2.2.2.2)) (az_Pc xs D cy A ad as G) (az_Qc D cy A ad G.1.length o) (az_Xc D cy A ad G.1.length o) (o.2.2.2.2.2.1 - G.2.2.2.1) (o.2.2.2.2.2.2 - G.2.2.2.2) A := by
  obtain ⟨-, -, hcls, ⟨-, -, hpl⟩, -, -, -, -, -, -, -⟩ := az_ms m hm
  have hmono := az_run_mono _ _ _ _ _ _ _ _ hr
  have body : ∀ (p : Program) (e : Env) (s : State) (mi : MethodId) (args : Array Value) (below : List Frame) (meth : Method) (c : Code) (s₁ : State), BodyLoose p l (az_y m) (headSpec (az_ws m) (az_rm d (o.2.2.2.2.2.1 - G.2.2.2.1) (o.2.2.2.2.2.2 - G.2.2.2.2))) (az_code m) (az_ml m) (az_rf (az_rt m)) e s mi args below meth c s₁ → c.maxLocals = az_ml m → c.exceptionTable.toList = tableOf (az_hh m) → az_Pc xs D cy A ad as G args s →
      W p l e (az_rm d (o.2.2.2.2.2.1 - G.2.2.2.1) (o.2.2.2.2.2.2 - G.2.2.2.2)) s mi args below meth c s.heap [] 0 0 (vx_MQ below (az_Qc D cy A ad G.1.length o) (az_Xc D cy A ad G.1.length o) args s (o.2.2.2.2.2.1 - G.2.2.2.1) (o.2.2.2.2.2.2 - G.2.2.2.2) A) (entryFrame mi args (az_ml m)) := by
    intro p e s mi args below meth c s₁ B hml htab hPc
    obtain ⟨rfl, hP, hD, hV, hsf, hA, hsx⟩ := hPc
    have hx := B.exec
    have hb := B.bytes
    have hts0 := atoms_spec (ws := az_ws m) B.pre
    have hts : ∀ w ∈ az_gw, w.before (as.map (az_c ad)).toArray s = true := fun w hw => hts0 w (List.mem_cons_of_mem _ hw)
    have hlocks := B.notSynchronized
    have hown : s.vm.findClass (az_R (az_own m)) = some mi.cls := by rw [← hcls]; exact findClass_of_methodNamed B.named
    have hK : az_K p s mi (as.map (az_c ad)).toArray meth c xs m D cy A ad := ⟨hx, hb, hown, hml, hts, hV, hA, fun h => (name_of_methodNamed B.named B.method).1.trans h, hsx, az_AOm (Vm.Alike.refl _) hsf.2.1⟩
    rw [lg_entry_eq]
    refine ih d m 0 (az_lay m as) [] G o hr p e (az_rm d (o.2.2.2.2.2.1 - G.2.2.2.1) (o.2.2.2.2.2.2 - G.2.2.2.2)) s mi _ below meth c _ D cy A ad G.1.length G.2.2.2.1 G.2.2.2.2 ⟨Nat.le_refl _, Nat.le_refl _⟩ hK hsf hlocks (fun _ => htab) (az_lay_len hl) (by omega) ⟨?_, ?_⟩ ?_ ad _ s.heap [] 0 0 ⟨⟨az_lay_Lr hc hok hl, fun _ h => by cases h⟩, hwf, hP, hD, va_S.rf, ⟨fun _ _ => rfl, rfl⟩, Nat.le_refl _, Nat.zero_add _, Nat.zero_add _, hn⟩
    · show o.2.2.2.2.2.1 ≤ G.2.2.2.1 + (o.2.2.2.2.2.1 - G.2.2.2.1)
      omega
    · show o.2.2.2.2.2.2 ≤ G.2.2.2.2 + (o.2.2.2.2.2.2 - G.2.2.2.2)
      omega
    · refine ⟨?_, ?_, ?_, ?_⟩
      · intro pc ad' L ls v H locs cells slots h0 hv hd hrt hR
        obtain ⟨⟨hLr, hst⟩, hwf', hP', hD', hS', hag, hn0, hn1, hn2, hn3⟩ := hR
        obtain rfl : cells = o.2.2.2.2.2.1 - G.2.2.2.1 := by omega
        obtain rfl : slots = o.2.2.2.2.2.2 - G.2.2.2.2 := by omega
        have hq : ∀ t : State, t.heap = H → s.WarmedH t.vm → az_Qc D cy A ad G.1.length o (as.map (az_c ad)).toArray s (.returned (some (.int v))) t := fun t ht hW => ⟨h0, ad', by rw [hv]; rfl, fun w hw => by rw [hv] at hw; cases hw; trivial, ⟨hag, hwf', by rw [ht]; exact hP', hD', hn0, hn3⟩, hS'.F ht⟩
        have hr := B.returns
        rcases hrt with h1 | ⟨h1, h2⟩
        · rw [h1] at hr
          exact vx_ret (W.iret hx hb hr hq hS'.2.2 hd hlocks)
        · rw [h1] at hr
          exact vx_ret (W.zret hx hb hr h2 hq hS'.2.2 hd hlocks)
      · intro pc ad' L ls H locs cells slots h0 hv hd hrt hR
        obtain ⟨⟨hLr, hst⟩, hwf', hP', hD', hS', hag, hn0, hn1, hn2, hn3⟩ := hR
        obtain rfl : cells = o.2.2.2.2.2.1 - G.2.2.2.1 := by omega
        obtain rfl : slots = o.2.2.2.2.2.2 - G.2.2.2.2 := by omega
        have hr := B.returns
        rw [hrt] at hr
        have hq : ∀ t : State, t.heap = H → s.WarmedH t.vm → az_Qc D cy A ad G.1.length o (as.map (az_c ad)).toArray s (.returned none) t := fun t ht hW => ⟨h0, ad', by rw [hv]; rfl, fun w hw => (by rw [hv] at hw; cases hw), ⟨hag, hwf', by rw [ht]; exact hP', hD', hn0, hn3⟩, hS'.F ht⟩
        exact vx_ret (W.vret hx hb hr hq hS'.2.2 hd hlocks)
      · intro pc n ad' L ls G' H locs cells slots hLl ht ho hR
        have ho1 : o.2.2.2.2.2.1 = G'.2.2.2.1 + 1 := by rw [ho]
        have ho2 : o.2.2.2.2.2.2 = G'.2.2.2.2 + 6 := by rw [ho]
        refine az_throw (L := L) (G := G') (n0 := G.1.length) (c0 := G.2.2.2.1) (s0 := G.2.2.2.2) (k := m) hlt hK hsf hlocks htab hLl ⟨?_, ?_⟩ ht hR ho ⟨?_, ?_⟩ (by omega) (by omega)
        · show 6 ≤ d + 8
          omega
        · show 100 ≤ 60 * d + 200
          omega
        · show o.2.2.2.2.2.1 ≤ G.2.2.2.1 + (o.2.2.2.2.2.1 - G.2.2.2.1)
          omega
        · show o.2.2.2.2.2.2 ≤ G.2.2.2.2 + (o.2.2.2.2.2.2 - G.2.2.2.2)
          omega
      · intro pc ad' L ls rest ce q H locs cells slots hE hxt hne hR hcell hv hcl
        obtain ⟨⟨hLr, hst⟩, hwf', hP', hD', hS', hag, hn0, hn1, hn2, hn3⟩ := hR
        refine vx_out (fun x hx9 => ?_) hlocks hcell hv hcl (fun t ht hW => ⟨hE, rfl, ad', ⟨hag, hwf', by rw [ht]; exact hP', hD', hn0, hn3⟩, hS'.F ht⟩) hS'.2.2 (by omega) (by omega)
        rw [htab, az_xh m (by omega) hxt] at hx9
        cases hx9
  by_cases h3 : az_kd m = 3
  · have hw : az_ws m = Jvm.Cond.codeWith (az_y m) (az_code m) (az_ml m) (az_rf (az_rt m)) (az_hh m) :: az_gw := by unfold az_ws az_cw; rw [if_pos h3]
    refine vx_ofWH hpl hw (fun p e s mi args below meth c s₁ B hml hPc => body p e s mi args below meth c s₁ B hml ?_ hPc)
    exact vx_table (x := az_y m) B (atoms_spec (ws := az_ws m) B.pre _ (by rw [hw]; exact List.mem_cons_self))
  · have hw : az_ws m = Jvm.Cond.code (az_y m) (az_code m) (az_ml m) (az_rf (az_rt m)) :: az_gw := by unfold az_ws az_cw; rw [if_neg h3]
    refine vx_ofW hpl hw (fun p e s mi args below meth c s₁ B hml hno hPc => body p e s mi args below meth c s₁ B hml ?_ hPc)
    have hh : az_hh m = [] := az_xh m (by omega) (az_x3 m hm h3)
    rw [hh]
    exact List.eq_nil_iff_forall_not_mem.mpr hno
