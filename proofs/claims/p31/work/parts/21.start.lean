/-! from one run of the small machine to the law's walk -/
def az_G0 : az_G := ([], fun _ _ => 0, fun _ _ => 0, 0, 0)
def az_L0 : az_Ls := [some (.ref az_scr), none, none, none, none, none, none]
/-- what is left to show: the small machine runs the law to 1 on every script, in the room -/
def az_goal : Prop := ∀ (n : Nat) (ys : Nat → Int32), n ≤ 260 → ∃ (f : Nat) (o : az_O), az_run (n, ys) f 30 az_main 0 az_L0 [] az_G0 = some o ∧ o.1 = 0 ∧ o.2.1 = some (.int 1) ∧ o.2.2.2.2.2.1 ≤ 934111 ∧ o.2.2.2.2.2.2 ≤ 6299292
theorem az_strn : ∀ q ∈ az_str, Jvm.Cond.exactly (.string RX6 q.1) "java/lang/String" ∈ flatC (Jvm.Cond.and given_1 narrow_1) := by decide +kernel
theorem az_ncn : ∀ q ∈ az_nc, Jvm.Cond.not (.castable (az_xn q.1) (az_xn q.2)) ∈ flatC (Jvm.Cond.and given_1 narrow_1) := by decide +kernel
theorem az_cls : ∀ z, z < 7 → (∀ w ∈ u_ws (az_R z) (az_T z) (az_N z), w ∈ lw_tbl) := fun z hz w hw => (List.mem_filter.mp (az_uin z hz w hw)).1
set_option maxHeartbeats 4000000 in
set_option maxRecDepth 100000 in
theorem az_begin {p : Program} {e : Env} {s : State} {m : MethodId} {below : List Frame} {meth : Method} {c : Code} (hgo : az_goal) (l : Launch) (hflags : l.flags = flags0) {b L : Nat} {xs : Nat → Int32} (hL : L ≤ 260) (C0 : lw_At p s m meth c b L xs) : W p l e room_1 s m #[Value.ref b] below meth c s.heap [] 0 0 (lw_Z below #[Value.ref b] s) (entryFrame m ([Value.ref b] : List Value).toArray 7) := by
  obtain ⟨hx, hb, hr, hml, hown, hts, hX, hbl, hlocks, hgv⟩ := id C0
  obtain ⟨f, o, hrun, ho0, ho1, hoc, hos⟩ := hgo L xs hL
  have hlt : l.stackTraces = false := by unfold Launch.stackTraces; rw [hflags]; decide +kernel
  have hfl := flat_of_before _ hgv
  have htsg : ∀ w ∈ az_gw, w.before #[Value.ref b] s = true := fun w hw => hts w (List.mem_filter.mp hw).1
  have hkn : ∀ z : Nat, z < 7 → ∃ (cC : ClassId) (iS : Nat → Nat), u_Kn s (az_R z) (az_T z) (az_N z) cC iS := fun z hz => u_known hts (az_cls z hz) (htsg _ (az_ins z hz).1)
  obtain ⟨dC, dI, hD0⟩ : ∃ (dC : Nat → ClassId) (dI : Nat → Nat → Nat), ∀ z : Nat, z < 7 → u_Kn s (az_R z) (az_T z) (az_N z) (dC z) (dI z) := by
    have h1 : ∀ z : Nat, ∃ (q : ClassId × (Nat → Nat)), z < 7 → u_Kn s (az_R z) (az_T z) (az_N z) q.1 q.2 := fun z => by
      by_cases hz : z < 7
      · obtain ⟨cC, iS, h⟩ := hkn z hz
        exact ⟨(cC, iS), fun _ => h⟩
      · exact ⟨(0, fun _ => 0), fun h => absurd h hz⟩
    exact ⟨fun z => (h1 z).choose.1, fun z => (h1 z).choose.2, fun z hz => (h1 z).choose_spec hz⟩
  have hpr : ∀ ty : FieldType, (∀ C, ty ≠ .object C) → Jvm.Cond.arrayClass ty ∈ az_gw → ∃ c9 : ClassId, ArrOfT s c9 ty ∧ va_RA s c9 ty := fun ty hty hw => by
    obtain ⟨c9, k9, comp, h1, h2, h3⟩ := Cond.arrayClass_spec (htsg _ hw)
    refine ⟨c9, fun N z => ⟨(fun q hq => by cases hq), k9, h2, comp, h3⟩, ?_⟩
    cases ty <;> first | exact h1 | exact absurd rfl (hty _)
  obtain ⟨c1, a1, r1⟩ := hpr .int (fun C h => by cases h) az_ac_int
  obtain ⟨c2, a2, r2⟩ := hpr .boolean (fun C h => by cases h) az_ac_boolean
  have hover : (Jvm.Cond.arrayOver (.array .int)).before #[Value.ref b] s = true := hts _ (by decide +kernel)
  obtain ⟨comp4, c4, k4, -, -, h43, h44, h45⟩ := az_AOs hover
  obtain ⟨cy, hcy⟩ : ∃ g : Nat → ClassId, g = fun z => if z = 0 then c1 else if z = 1 then c2 else if z = 2 then c1 else c4 := ⟨_, rfl⟩
  have e0 : cy 0 = c1 := by rw [hcy]; rfl
  have e1 : cy 1 = c2 := by rw [hcy]; rfl
  have e2 : cy 2 = c1 := by rw [hcy]; rfl
  have e3 : cy 3 = c4 := by rw [hcy]; rfl
  have hV : va_K (dC, dI) az_cl (az_tl cy) s := by
    refine ⟨fun z q hq => ?_, fun z q hq => ?_⟩
    · have hz : z < 7 := (List.getElem?_eq_some_iff.mp hq).1
      rw [az_clg z hz] at hq
      cases hq
      exact hD0 z hz
    · unfold az_tl at hq
      rw [e0, e1, e2, e3] at hq
      match z, hq with
      | 0, hq => cases hq; exact ⟨a1, r1⟩
      | 1, hq => cases hq; exact ⟨a2, r2⟩
      | 2, hq => cases hq; exact ⟨a1, r1⟩
      | 3, hq => cases hq; exact ⟨fun N z => ⟨(fun q hq => by cases hq), k4, h43, comp4, h44⟩, h45⟩
      | z + 4, hq => simp at hq
  have hA : ∀ q : Nat, s.heap.size ≤ q → (fun q : Nat => s.heap.size ≤ q) q := fun _ h => h
  have hnA : ∀ a : Nat, a < s.heap.size → ¬ (fun q : Nat => s.heap.size ≤ q) a := fun a h => Nat.not_le.mpr h
  have hsf : az_sf (fun q : Nat => s.heap.size ≤ q) s := by
    refine ⟨fun w hw => va_Nw.of (az_ngo w hw) (hts w (az_ngt w hw)), az_AOm (Vm.Alike.refl _) hover, ?_, ?_, vx_Zqof (hts _ (by decide +kernel)) (hts _ (by decide +kernel)) (hfl _ (by decide +kernel)) hnA, vx_Zqof (hts _ (by decide +kernel)) (hts _ (by decide +kernel)) (hfl _ (by decide +kernel)) hnA⟩
    · intro q hq
      have h1 := hts _ (az_strt q hq)
      have h2 : (Jvm.Cond.exactly (.string RX6 q.1) "java/lang/String").before #[Value.ref b] s = true := hfl _ (az_strn q hq)
      obtain ⟨sa, -, -, -, h3, -⟩ := Cond.exactly_spec h2
      exact ⟨sa, vk_R.of h1 h3⟩
    · intro q hq
      exact va_Nc.of (hfl _ (az_ncn q hq))
  have hK : az_K p s m #[Value.ref b] meth c (L, xs) az_main (dC, dI) cy (fun q : Nat => s.heap.size ≤ q) (fun _ => b) := ⟨hx, hb, hown, hml, htsg, hV, hA, fun h => absurd h (by decide +kernel), ⟨hX, hbl, Nat.not_le.mpr hbl⟩, hover⟩
  have hl := lv_entry ([.ref b]) (n := 7) (Nat.le_of_ble_eq_true rfl)
  rw [lg_entry_eq]
  generalize (lg_sl ([.ref b]) ++ List.replicate (7 - (lg_sl ([.ref b])).length) Slot.unset).toArray = ls at hl ⊢
  have hl : lv_has ls 7 [(0, .ref b)] := hl
  refine az_snd hlt f 30 az_main 0 az_L0 [] az_G0 o hrun p e room_1 s m #[Value.ref b] below meth c (lw_Z below #[Value.ref b] s) (dC, dI) cy (fun q : Nat => s.heap.size ≤ q) (fun _ => b) 0 0 0 ⟨by decide +kernel, by decide +kernel⟩ hK hsf hlocks (fun h => absurd rfl h) (by decide +kernel) (by decide +kernel) ⟨?_, ?_⟩ ⟨?_, ?_, ?_, ?_⟩ (fun _ => b) ls s.heap [] 0 0 ⟨⟨⟨hl.1, hl.2.1, ?_⟩, fun _ h => (by cases h)⟩, fun _ h => (by cases h), fun k q h => (by cases h), ⟨fun i j p q h => (by cases h), fun k q h => (by cases h)⟩, va_S.rf, ⟨fun _ _ => rfl, rfl⟩, Nat.le_refl _, rfl, rfl, by decide⟩
  · rw [Nat.zero_add]; exact hoc
  · rw [Nat.zero_add]; exact hos
  · intro pc ad L' ls' v H locs cells slots h0 hv hd hrt hR
    rw [ho1] at hv
    cases hv
    obtain ⟨-, -, -, -, hS, -, -, hn1, hn2, -⟩ := hR
    refine va_forget (fun q hq => hS.2.2 q hq) ?_
    refine W.widen (k := 934111) (n := 6299292) (by omega) (by omega) ?_
    exact lw_ret hx hb hr hlocks hd
  · intro pc ad L' ls' H locs cells slots h0 hv
    rw [ho1] at hv
    cases hv
  · intro pc n ad L' ls' G H locs cells slots _ _ ho
    rw [ho] at ho1
    cases ho1
  · intro pc ad L' ls' rest ce q H locs cells slots _ _ hne
    exact absurd rfl hne
  · intro i v hi
    match i, hi with
    | 0, hi => cases hi; exact ⟨rfl, Or.inr rfl, hl.2.2 (0, .ref b) List.mem_cons_self⟩
    | 1, hi => cases hi
    | 2, hi => cases hi
    | 3, hi => cases hi
    | 4, hi => cases hi
    | 5, hi => cases hi
    | 6, hi => cases hi
    | i + 7, hi => cases hi
