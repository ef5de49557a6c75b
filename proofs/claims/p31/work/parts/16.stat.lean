/-! what the start gives and every call keeps; a throw; a catch; a call -/
theorem az_AOs {args : Array Value} {s : State} {t : FieldType} (h : (Jvm.Cond.arrayOver (.array t)).before args s = true) :
    ∃ comp c k, s.vm.findClass (FieldType.array t).toString = some comp ∧ (s.vm.classes.findIdx? fun (x : Class) => match x.kind with | .array component _ => component == comp | _ => false) = some c ∧ s.vm.classes[c]? = some k ∧ k.kind = .array comp (.array t) ∧ s.vm.findClass ("[" ++ (FieldType.array t).toString) = some c := by
  simp only [Cond.before, Cond.holds, Cond.value, beq_iff_eq] at h
  cases hc : s.vm.findClass (FieldType.array t).toString with
  | none => simp [hc] at h
  | some comp =>
    simp only [hc, Option.bind_some, Option.bind_eq_some_iff, Option.map_eq_some_iff] at h
    obtain ⟨c, hi, k, hk, hb⟩ := h
    obtain ⟨hlt, hp, -⟩ := Array.findIdx?_eq_some_iff_getElem.mp hi
    have hkk : s.vm.classes[c] = k := (Array.getElem?_eq_some_iff.mp hk).2
    rw [hkk] at hp
    cases hkind : k.kind with
    | array component ty =>
      rw [hkind] at hb hp
      simp at hb hp
      exact ⟨comp, c, k, rfl, hi, hk, by rw [hkind, hp, hb.1], hb.2⟩
    | _ => rw [hkind] at hb; simp at hb
theorem az_AOm {t : FieldType} {u U : State} {A A' : Array Value} (hvm : u.vm.Alike U.vm) (h : (Jvm.Cond.arrayOver (.array t)).before A u = true) : (Jvm.Cond.arrayOver (.array t)).before A' U = true := by
  obtain ⟨comp, c, k, h1, h2, h3, h4, h5⟩ := az_AOs h
  obtain ⟨k', hk', he⟩ := hvm.2.2 _ _ h3
  have hi : (U.vm.classes.findIdx? fun (x : Class) => match x.kind with | .array component _ => component == comp | _ => false) = some c := by
    refine (va_idx_bare U.vm comp).symm.trans ?_
    first | rw [hvm.bare_eq] | rw [← hvm.bare_eq]
    exact (va_idx_bare u.vm comp).trans h2
  have hkind : k'.kind = .array comp (.array t) := by rw [he]; exact h4
  have f1 : U.vm.findClass (FieldType.array t).toString = some comp := by rw [hvm.findClass]; exact h1
  have f2 : U.vm.findClass ("[" ++ (FieldType.array t).toString) = some c := by rw [hvm.findClass]; exact h5
  unfold Cond.before Cond.holds
  simp only [Cond.value]
  rw [f1, Option.bind_some]
  refine (congrArg (fun o : Option Nat => (o.bind (fun c => (U.vm.classes[c]?).map fun (k : Class) => match k.kind with | .array _ ty => decide (ty = FieldType.array t) && decide (U.vm.findClass ("[" ++ (FieldType.array t).toString) = some c) | _ => false) == some true)) hi).trans ?_
  simp [hk', hkind, f2]
def az_sf (A : Nat → Prop) (U : State) : Prop :=
  (∀ w ∈ az_ng, va_Nw w U) ∧ (Jvm.Cond.arrayOver (.array .int)).before #[] U = true ∧ (∀ q ∈ az_str, ∃ sa, vk_R RX6 q.1 q.2 sa U) ∧ (∀ q ∈ az_nc, va_Nc (az_xn q.1) (az_xn q.2) U) ∧
  vx_Zq Bundle.tN "UNASSIGNED_STACK" Bundle.steD A U U.heap ∧ vx_Zq Bundle.tN "SUPPRESSED_SENTINEL" Bundle.listD A U U.heap
theorem az_sf.moved {A : Nat → Prop} {s U : State} (hW : s.WarmedH U.vm) (hh : ∀ a : Nat, a < s.heap.size → ¬ A a → U.heap[a]? = s.heap[a]?) (h : az_sf A s) : az_sf A U := by
  obtain ⟨h1, h2, h3, h4, h5, h6⟩ := h
  exact ⟨fun w hw => az_ngw w hw s U hW (h1 w hw), az_AOm hW.alike h2, fun q hq => by
    obtain ⟨sa, h⟩ := h3 q hq
    exact ⟨sa, vk_R.warm hW h⟩, fun q hq => va_Nc.moved hW.alike (h4 q hq), (vx_Zq.kept h5 hh).moved hW.alike, (vx_Zq.kept h6 hh).moved hW.alike⟩
theorem az_sf.same {A : Nat → Prop} {s U : State} (hv : s.vm = U.vm) (hh : U.heap = s.heap) (h : az_sf A s) : az_sf A U :=
  h.moved (by rw [← hv]; exact State.WarmedH.refl s) (fun a _ _ => by rw [hh])
theorem az_kept {D : va_G} {cl : List vw_C} {ws : va_W} {H H1 : Heap} (h : va_P D cl ws H) (hs : ∀ q : Nat, q < H.size → H1[q]? = H[q]?) : va_P D cl ws H1 := h.kept (fun k q hk => hs q.1 ((h k q hk).lt))
/-- what a method's end says of the cells -/
def az_en (D : va_G) (cy : Nat → ClassId) (A : Nat → Prop) (ad : Nat → Nat) (n : Nat) (ad' : Nat → Nat) (G : az_G) (t : State) : Prop :=
  az_ag ad n ad' ∧ az_wf G.1 ∧ va_P D az_cl (az_w cy ad' G) t.heap ∧ va_D A (az_w cy ad' G) ∧ n ≤ G.1.length ∧ G.1.length ≤ 300000
def az_Qc (D : va_G) (cy : Nat → ClassId) (A : Nat → Prop) (ad : Nat → Nat) (n : Nat) (o : az_O) : Array Value → State → Outcome → State → Prop := fun _ st oc t =>
  o.1 = 0 ∧ ∃ ad', oc = .returned (o.2.1.map (az_c ad')) ∧ (∀ v ∈ o.2.1, az_ok o.2.2.1.length v) ∧ az_en D cy A ad n ad' o.2.2 t ∧ va_F A st t
def az_Xc (D : va_G) (cy : Nat → ClassId) (A : Nat → Prop) (ad : Nat → Nat) (n : Nat) (o : az_O) : String → State → State → Prop := fun E st t =>
  (1 ≤ o.1 ∧ o.1 ≤ 3) ∧ E = az_xn o.1 ∧ ∃ ad', az_en D cy A ad n ad' o.2.2 t ∧ va_F A st t
/-- the script stands -/
def az_sx (xs : az_X) (A : Nat → Prop) (b : Nat) (U : State) : Prop := va_X b xs.1 xs.2 U U.heap ∧ b < U.heap.size ∧ ¬ A b
def az_Pc (xs : az_X) (D : va_G) (cy : Nat → ClassId) (A : Nat → Prop) (ad : Nat → Nat) (as : List Value) (G : az_G) : Array Value → State → Prop := fun v U =>
  v = (as.map (az_c ad)).toArray ∧ va_P D az_cl (az_w cy ad G) U.heap ∧ va_D A (az_w cy ad G) ∧ va_K D az_cl (az_tl cy) U ∧ az_sf A U ∧ (∀ q : Nat, U.heap.size ≤ q → A q) ∧ az_sx xs A (ad az_scr) U
def az_ws (m : Nat) : List Jvm.Cond := az_cw m :: az_gw
def az_rm (d mc ms : Nat) : Room := { frames := d + 8, cells := mc, slots := ms, locals := 60 * d + 200 }
theorem az_blind {xs : az_X} {D : va_G} {cy : Nat → ClassId} {A : Nat → Prop} {ad : Nat → Nat} {as : List Value} {G : az_G} : FrameBlind (az_Pc xs D cy A ad as G) := by
  intro a U g mk h
  obtain ⟨h1, h2, h3, h4, h5, h6, h7, h8⟩ := h
  exact ⟨h1, h2, h3, va_K.moved (u := U) (U := U.calling g mk a) (Vm.Alike.refl U.vm) h4, az_sf.same (s := U) (U := U.calling g mk a) rfl rfl h5, h6, va_X.moved (u := U) (U := U.calling g mk a) (Vm.Alike.refl U.vm) h7, h8⟩
section
variable {p : Program} {l : Launch} {e : Env} {R : Room} {s : State} {m : MethodId} {args : Array Value} {below : List Frame} {meth : Method} {c : Code} {Q : State → Prop}
variable {xs : az_X} {k pc : Nat} {D : va_G} {cy : Nat → ClassId} {A : Nat → Prop} {ad0 : Nat → Nat} {n0 c0 s0 : Nat} {L : az_Ls} {st : List Value} {G : az_G} {q : az_Nx}
/-- where a call comes back -/
theorem az_callK {H : Heap} {locs : List Loc} {cells slots mc ms : Nat} {ls : Array Slot} {st0 rest : List Value} {Qa : State → Outcome → State → Prop} {XC : String → State → State → Prop} {A : Nat → Prop} {H0 : Heap}
    (hr : vx_Run p l e R s m args below meth c H locs cells slots mc ms (F0 m pc ls st0) rest Qa XC A) (hS : va_S A H0 H locs) (hQF : ∀ st oc t, Qa st oc t → va_F A st t) (hXF : ∀ z st t, XC z st t → va_F A st t)
    (kk : ∀ (v : Option Value) (st₀ t : State) (H1 : Heap) (locs1 : List Loc), t.heap = H1 → s.vm.Alike t.vm → Qa st₀ (.returned v) t → va_S A H0 H1 locs1 → W p l e R s m args below meth c H1 locs1 (cells + mc) (slots + ms) Q (F0 m (pc + 3) ls (v.toList ++ rest)))
    (kx : ∀ (z : String) (ce : Cell) (q9 : Addr) (st₀ t : State) (H1 : Heap) (locs1 : List Loc), t.heap = H1 → s.vm.Alike t.vm → XC z st₀ t → va_S A H0 H1 locs1 → H1[q9]? = some ce → ce.vm = .none → s.vm.findClass z = some ce.cls → vx_W p l e R s m args below meth c H1 locs1 (cells + mc) (slots + ms) Q (F0 m pc ls rest) q9) :
    W p l e R s m args below meth c H locs cells slots Q (F0 m pc ls st0) := by
  intro T hT X
  rcases hr T hT X with ⟨v, st₀, t, T', L, h0, X', hL, e1, e2, hQ, st⟩ | ⟨q, st₀, t, T', L, z, ce, h0, X', hL, e1, e2, hX, hce, hcv, hcl, st⟩
  · obtain ⟨k1, k2, k3⟩ := vx_keep h0 e1 hS (fun _ _ h => h) (fun _ h => h) hL (hQF _ _ _ hQ)
    obtain ⟨t2, a1, b1⟩ := kk v st₀ t T'.heap (locs ++ L) e1.symm (by rw [← e2]; exact X'.warmed.alike) hQ k3 T' rfl X'
    exact ⟨t2, st t2 a1, b1⟩
  · obtain ⟨k1, k2, k3⟩ := vx_keep h0 e1 hS (fun _ _ h => h) (fun _ h => h) hL (hXF _ _ _ hX)
    obtain ⟨t2, a1, b1⟩ := kx z ce q st₀ t T'.heap (locs ++ L) e1.symm (by rw [← e2]; exact X'.warmed.alike) hX k3 (by rw [e1]; exact hce) hcv hcl T' rfl X'
    exact ⟨t2, st.trans a1, b1⟩
/-- a throw -/
theorem az_throw {n mc ms : Nat} {o : az_O} {ad : Nat → Nat} {ls : Array Slot} {H : Heap} {locs : List Loc} {cells slots : Nat} (hlt : l.stackTraces = false) (hK : az_K p s m args meth c xs k D cy A ad0) (hsf : az_sf A s) (hlocks : meth.locks = false) (htab : c.exceptionTable.toList = tableOf (az_hh k)) (hL : L.length = az_ml k)
    (hR6 : 6 ≤ R.frames ∧ 100 ≤ R.locals) (h : az_thr k pc = some n) (hR : az_at D cy A s.heap ad0 n0 c0 s0 ad L ls [] G H locs cells slots) (ho : o = (n, none, (G.1, G.2.1, G.2.2.1, G.2.2.2.1 + 1, G.2.2.2.2 + 6))) (hB : o.2.2.2.2.2.1 ≤ c0 + R.cells ∧ o.2.2.2.2.2.2 ≤ s0 + R.slots)
    (hmc : mc + c0 = o.2.2.2.2.2.1) (hms : ms + s0 = o.2.2.2.2.2.2) :
    W p l e R s m args below meth c H locs cells slots (vx_MQ below (az_Qc D cy A ad0 n0 o) (az_Xc D cy A ad0 n0 o) args s mc ms A) (F0 m pc ls []) := by
  obtain ⟨hx, hb, hown, hml, hts, hV, hA, -, -, -⟩ := hK
  obtain ⟨⟨hLr, hst⟩, hwf, hP, hD, hS, hag, hn0, hn1, hn2, hn3⟩ := hR
  obtain ⟨hng, -, hstr, -, hU, hN⟩ := hsf
  obtain ⟨ik, is, ic, text, wd, hs6, hcl, hini, htx, hat, hot, ⟨hf1, hf2⟩, ⟨d0, d3⟩, hd, hh0, hn1', hn3'⟩ := az_sites h
  subst ho
  rw [hs6] at hown
  obtain ⟨sa, hsa⟩ := hstr _ htx
  have hB1 : G.2.2.2.1 + 1 ≤ c0 + R.cells := hB.1
  have hB2 : G.2.2.2.2 + 6 ≤ s0 + R.slots := hB.2
  have hmc : mc + c0 = G.2.2.2.1 + 1 := hmc
  have hms : ms + s0 = G.2.2.2.2 + 6 := hms
  have hat' : ∀ w ∈ vx_atS RX6 ic (az_xn n) az_nms, w.before args s = true := fun w hw => (hat w hw).elim (hts w) (fun h9 => va_Nw.use (az_ngo w h9) (hng w h9))
  have hsz : ls.size = c.maxLocals := by rw [hml, hLr.1, hL]
  have hout : ∀ (pc' : Nat), ∀ x ∈ c.exceptionTable.toList, covers x pc' = false := fun pc' x hx9 => by rw [htab, hh0] at hx9; cases hx9
  have hX : ∀ t : State, s.vm.Alike t.vm → H.size ≤ t.heap.size → (∀ q : Nat, q < H.size → t.heap[q]? = H[q]?) → az_Xc D cy A ad0 n0 (n, none, (G.1, G.2.1, G.2.2.1, G.2.2.2.1 + 1, G.2.2.2.2 + 6)) (az_xn n) s t := fun t _ h1 h2 =>
    ⟨⟨hn1', hn3'⟩, rfl, ad, ⟨hag, hwf, az_kept hP h2, hD, hn0, hn3⟩, Nat.le_trans hS.1 h1, fun q q1 q2 => by rw [h2 q (Nat.lt_of_lt_of_le q1 hS.1)]; exact hS.2.1 q q1 q2⟩
  cases wd with
  | false => exact vx_throwS (names := az_nms) (sa := sa) hx hb hlt hown hf1 hf2 (hts _ hcl) (hts _ hini) hsa hat' hot hU hN hS hsz d0 d3 hd.1 hd.2.1 hd.2.2 (hout _) (by show 2 + 3 < R.frames; omega) (by show 0 + (13 * (2 + 1) + 43) ≤ R.locals; omega) (by omega) (by omega) hlocks hX hS.2.2 (by omega) (by omega)
  | true => exact vx_throwSW (names := az_nms) (sa := sa) hx hb hlt hown hf1 hf2 (hts _ hcl) (hts _ hini) hsa hat' hot hU hN hS hsz d0 d3 hd.1 hd.2.1 hd.2.2 (hout _) (by show 2 + 3 < R.frames; omega) (by show 0 + (13 * (2 + 1) + 43) ≤ R.locals; omega) (by omega) (by omega) hlocks hX hS.2.2 (by omega) (by omega)
end
