def az_nms : List String := ["java/lang/RuntimeException", "java/lang/Exception"]
/-- a place that throws -/
def az_site (k pc n ik is ic : Nat) (text : String) (wd : Bool) : Prop :=
  az_own k = 6 ∧ Jvm.Cond.classLink RX6 ik (az_xn n) ∈ az_gw ∧ Jvm.Cond.initialized (az_xn n) ∈ az_gw ∧ (is, text) ∈ az_str ∧ (∀ w ∈ vx_atS RX6 ic (az_xn n) az_nms, w ∈ az_gw ∨ w ∈ az_ng) ∧
  (∀ w ∈ Jvm.Cond.classLink RX6 ik (az_xn n) :: Jvm.Cond.initialized (az_xn n) :: vx_atS RX6 ic (az_xn n) az_nms, vx_ot w = true) ∧ (Bundle.fit (az_xn n) = true ∧ ∀ z ∈ az_nms, Bundle.fit z = true) ∧
  (decode (az_code k) pc = .ok (.new ik, 3) ∧ decode (az_code k) (pc + 3) = .ok (.dup, 1)) ∧
  (if wd = true then decode (az_code k) (pc + 4) = .ok (.ldc_w is, 3) ∧ decode (az_code k) (pc + 7) = .ok (.invokespecial ic, 3) ∧ decode (az_code k) (pc + 10) = .ok (.athrow, 1)
    else decode (az_code k) (pc + 4) = .ok (.ldc is, 2) ∧ decode (az_code k) (pc + 6) = .ok (.invokespecial ic, 3) ∧ decode (az_code k) (pc + 9) = .ok (.athrow, 1)) ∧
  (az_hh k = [] ∧ 1 ≤ n ∧ n ≤ 3)
theorem az_ats {ic : Nat} {n : Nat} (h : ((vx_atS RX6 ic (az_xn n) az_nms).all fun w => (decide (w ∈ lw_tbl) && goodWord w) || decide (w ∈ az_ng)) = true) : ∀ w ∈ vx_atS RX6 ic (az_xn n) az_nms, w ∈ az_gw ∨ w ∈ az_ng := by
  intro w hw
  have h1 := List.all_eq_true.mp h w hw
  simp only [Bool.or_eq_true, Bool.and_eq_true, decide_eq_true_eq] at h1
  rcases h1 with h1 | h1
  · exact Or.inl (List.mem_filter.mpr h1)
  · exact Or.inr h1
theorem az_at_249 : ∀ w ∈ vx_atS RX6 249 (az_xn 1) az_nms, w ∈ az_gw ∨ w ∈ az_ng := az_ats (by decide +kernel)
theorem az_at_309 : ∀ w ∈ vx_atS RX6 309 (az_xn 2) az_nms, w ∈ az_gw ∨ w ∈ az_ng := az_ats (by decide +kernel)
theorem az_at_318 : ∀ w ∈ vx_atS RX6 318 (az_xn 3) az_nms, w ∈ az_gw ∨ w ∈ az_ng := az_ats (by decide +kernel)
theorem az_site0 : az_site 62 15 1 245 247 249 "no such place" false := ⟨by decide +kernel, az_g 329 (by decide +kernel) (by decide +kernel), az_g 55 (by decide +kernel) (by decide +kernel), by decide +kernel, az_at_249, by decide +kernel, ⟨by decide +kernel, by decide +kernel⟩, ⟨by decide +kernel, by decide +kernel⟩, by decide +kernel, ⟨by decide +kernel, by decide, by decide⟩⟩
theorem az_site1 : az_site 69 9 1 245 303 249 "there is none of that number" true := ⟨by decide +kernel, az_g 329 (by decide +kernel) (by decide +kernel), az_g 55 (by decide +kernel) (by decide +kernel), by decide +kernel, az_at_249, by decide +kernel, ⟨by decide +kernel, by decide +kernel⟩, ⟨by decide +kernel, by decide +kernel⟩, by decide +kernel, ⟨by decide +kernel, by decide, by decide⟩⟩
theorem az_site2 : az_site 70 10 2 305 307 309 "out of range" true := ⟨by decide +kernel, az_g 400 (by decide +kernel) (by decide +kernel), az_g 56 (by decide +kernel) (by decide +kernel), by decide +kernel, az_at_309, by decide +kernel, ⟨by decide +kernel, by decide +kernel⟩, ⟨by decide +kernel, by decide +kernel⟩, by decide +kernel, ⟨by decide +kernel, by decide, by decide⟩⟩
theorem az_site3 : az_site 71 10 2 305 310 309 "not a multiple" true := ⟨by decide +kernel, az_g 400 (by decide +kernel) (by decide +kernel), az_g 56 (by decide +kernel) (by decide +kernel), by decide +kernel, az_at_309, by decide +kernel, ⟨by decide +kernel, by decide +kernel⟩, ⟨by decide +kernel, by decide +kernel⟩, by decide +kernel, ⟨by decide +kernel, by decide, by decide⟩⟩
theorem az_site4 : az_site 72 5 2 305 312 309 "both are the same" true := ⟨by decide +kernel, az_g 400 (by decide +kernel) (by decide +kernel), az_g 56 (by decide +kernel) (by decide +kernel), by decide +kernel, az_at_309, by decide +kernel, ⟨by decide +kernel, by decide +kernel⟩, ⟨by decide +kernel, by decide +kernel⟩, by decide +kernel, ⟨by decide +kernel, by decide, by decide⟩⟩
theorem az_site5 : az_site 73 4 3 314 316 318 "not as things stand" true := ⟨by decide +kernel, az_g 438 (by decide +kernel) (by decide +kernel), az_g 57 (by decide +kernel) (by decide +kernel), by decide +kernel, az_at_318, by decide +kernel, ⟨by decide +kernel, by decide +kernel⟩, ⟨by decide +kernel, by decide +kernel⟩, by decide +kernel, ⟨by decide +kernel, by decide, by decide⟩⟩
theorem az_sites {k pc n : Nat} (h : az_thr k pc = some n) : ∃ ik is ic text wd, az_site k pc n ik is ic text wd := by
  unfold az_thr at h
  obtain ⟨q, h1, h2⟩ := Option.map_eq_some_iff.mp h
  have h3 := List.mem_of_find?_eq_some h1
  have h4 := List.find?_some h1
  simp only [Bool.and_eq_true, beq_iff_eq] at h4
  have h5 : q = (k, pc, n) := by rw [← h4.1, ← h4.2, ← h2]
  rw [h5] at h3
  simp only [az_thrs, List.mem_cons, Prod.mk.injEq, List.not_mem_nil, or_false] at h3
  rcases h3 with ⟨rfl, rfl, rfl⟩ | ⟨rfl, rfl, rfl⟩ | ⟨rfl, rfl, rfl⟩ | ⟨rfl, rfl, rfl⟩ | ⟨rfl, rfl, rfl⟩ | ⟨rfl, rfl, rfl⟩
  · exact ⟨_, _, _, _, _, az_site0⟩
  · exact ⟨_, _, _, _, _, az_site1⟩
  · exact ⟨_, _, _, _, _, az_site2⟩
  · exact ⟨_, _, _, _, _, az_site3⟩
  · exact ⟨_, _, _, _, _, az_site4⟩
  · exact ⟨_, _, _, _, _, az_site5⟩
/-- where a throw is caught -/
def az_hok (k pc n i nx : Nat) : Prop := ∃ (pre : List (Nat × Nat × Nat × Nat)) (a b h ct : Nat) (suf : List (Nat × Nat × Nat × Nat)), az_hh k = pre ++ (a, b, h, ct) :: suf ∧ (a ≤ pc ∧ pc < b ∧ ct ≠ 0) ∧ (az_own k = 8 ∧ Jvm.Cond.classLink RL ct (az_xn n) ∈ az_gw) ∧
  (∀ z ∈ pre, z.2.2.2 ≠ 0 ∧ ∃ n2, Jvm.Cond.classLink RL z.2.2.2 (az_xn n2) ∈ az_gw ∧ (n, n2) ∈ az_nc) ∧ ((decode (az_code k) h = .ok (.astore i, 2) ∧ nx = h + 2) ∨ ∃ j : Fin 4, j.val = i ∧ decode (az_code k) h = .ok (.astore_n j, 1) ∧ nx = h + 1) ∧ Jvm.Cond.castable (az_xn n) (az_xn n) ∈ az_ng ∧ i < az_ml k
theorem az_hk144 : ∀ pc n i nx : Nat, az_hnd 144 pc n = some (i, nx) → az_hok 144 pc n i nx := by
  intro pc n i nx h
  unfold az_hnd at h
  obtain ⟨q, h1, h2⟩ := Option.map_eq_some_iff.mp h
  have h3 := List.mem_of_find?_eq_some h1
  have h4 := List.find?_some h1
  simp only [Bool.and_eq_true, beq_iff_eq, decide_eq_true_eq] at h4
  rw [show az_xt 144 = [(0, 14, 1, 6, 19), (0, 14, 2, 6, 23)] by decide +kernel] at h3
  simp only [List.mem_cons, List.not_mem_nil, or_false] at h3
  rcases h3 with rfl | rfl
  · obtain ⟨⟨ha, hb⟩, rfl⟩ := h4
    cases h2
    exact ⟨[], 0, 14, 17, 13, [(0, 14, 21, 15)], by decide +kernel, ⟨ha, hb, by decide⟩, ⟨by decide +kernel, az_g 320 (by decide +kernel) (by decide +kernel)⟩, fun _ h => absurd h List.not_mem_nil, Or.inl ⟨by decide +kernel, rfl⟩, by decide +kernel, by decide +kernel⟩
  · obtain ⟨⟨ha, hb⟩, rfl⟩ := h4
    cases h2
    exact ⟨[(0, 14, 17, 13)], 0, 14, 21, 15, [], by decide +kernel, ⟨ha, hb, by decide⟩, ⟨by decide +kernel, az_g 321 (by decide +kernel) (by decide +kernel)⟩, List.forall_mem_cons.mpr ⟨⟨by decide, 1, az_g 320 (by decide +kernel) (by decide +kernel), by decide⟩, fun _ h => absurd h List.not_mem_nil⟩, Or.inl ⟨by decide +kernel, rfl⟩, by decide +kernel, by decide +kernel⟩
theorem az_hk145 : ∀ pc n i nx : Nat, az_hnd 145 pc n = some (i, nx) → az_hok 145 pc n i nx := by
  intro pc n i nx h
  unfold az_hnd at h
  obtain ⟨q, h1, h2⟩ := Option.map_eq_some_iff.mp h
  have h3 := List.mem_of_find?_eq_some h1
  have h4 := List.find?_some h1
  simp only [Bool.and_eq_true, beq_iff_eq, decide_eq_true_eq] at h4
  rw [show az_xt 145 = [(0, 10, 1, 4, 15), (0, 10, 2, 4, 19)] by decide +kernel] at h3
  simp only [List.mem_cons, List.not_mem_nil, or_false] at h3
  rcases h3 with rfl | rfl
  · obtain ⟨⟨ha, hb⟩, rfl⟩ := h4
    cases h2
    exact ⟨[], 0, 10, 13, 13, [(0, 10, 17, 15)], by decide +kernel, ⟨ha, hb, by decide⟩, ⟨by decide +kernel, az_g 320 (by decide +kernel) (by decide +kernel)⟩, fun _ h => absurd h List.not_mem_nil, Or.inl ⟨by decide +kernel, rfl⟩, by decide +kernel, by decide +kernel⟩
  · obtain ⟨⟨ha, hb⟩, rfl⟩ := h4
    cases h2
    exact ⟨[(0, 10, 13, 13)], 0, 10, 17, 15, [], by decide +kernel, ⟨ha, hb, by decide⟩, ⟨by decide +kernel, az_g 321 (by decide +kernel) (by decide +kernel)⟩, List.forall_mem_cons.mpr ⟨⟨by decide, 1, az_g 320 (by decide +kernel) (by decide +kernel), by decide⟩, fun _ h => absurd h List.not_mem_nil⟩, Or.inl ⟨by decide +kernel, rfl⟩, by decide +kernel, by decide +kernel⟩
theorem az_hk146 : ∀ pc n i nx : Nat, az_hnd 146 pc n = some (i, nx) → az_hok 146 pc n i nx := by
  intro pc n i nx h
  unfold az_hnd at h
  obtain ⟨q, h1, h2⟩ := Option.map_eq_some_iff.mp h
  have h3 := List.mem_of_find?_eq_some h1
  have h4 := List.find?_some h1
  simp only [Bool.and_eq_true, beq_iff_eq, decide_eq_true_eq] at h4
  rw [show az_xt 146 = [(0, 12, 1, 5, 17), (0, 12, 2, 5, 21), (0, 12, 3, 5, 25)] by decide +kernel] at h3
  simp only [List.mem_cons, List.not_mem_nil, or_false] at h3
  rcases h3 with rfl | rfl | rfl
  · obtain ⟨⟨ha, hb⟩, rfl⟩ := h4
    cases h2
    exact ⟨[], 0, 12, 15, 13, [(0, 12, 19, 15), (0, 12, 23, 25)], by decide +kernel, ⟨ha, hb, by decide⟩, ⟨by decide +kernel, az_g 320 (by decide +kernel) (by decide +kernel)⟩, fun _ h => absurd h List.not_mem_nil, Or.inl ⟨by decide +kernel, rfl⟩, by decide +kernel, by decide +kernel⟩
  · obtain ⟨⟨ha, hb⟩, rfl⟩ := h4
    cases h2
    exact ⟨[(0, 12, 15, 13)], 0, 12, 19, 15, [(0, 12, 23, 25)], by decide +kernel, ⟨ha, hb, by decide⟩, ⟨by decide +kernel, az_g 321 (by decide +kernel) (by decide +kernel)⟩, List.forall_mem_cons.mpr ⟨⟨by decide, 1, az_g 320 (by decide +kernel) (by decide +kernel), by decide⟩, fun _ h => absurd h List.not_mem_nil⟩, Or.inl ⟨by decide +kernel, rfl⟩, by decide +kernel, by decide +kernel⟩
  · obtain ⟨⟨ha, hb⟩, rfl⟩ := h4
    cases h2
    exact ⟨[(0, 12, 15, 13), (0, 12, 19, 15)], 0, 12, 23, 25, [], by decide +kernel, ⟨ha, hb, by decide⟩, ⟨by decide +kernel, az_g 426 (by decide +kernel) (by decide +kernel)⟩, List.forall_mem_cons.mpr ⟨⟨by decide, 1, az_g 320 (by decide +kernel) (by decide +kernel), by decide⟩, List.forall_mem_cons.mpr ⟨⟨by decide, 2, az_g 321 (by decide +kernel) (by decide +kernel), by decide⟩, fun _ h => absurd h List.not_mem_nil⟩⟩, Or.inl ⟨by decide +kernel, rfl⟩, by decide +kernel, by decide +kernel⟩
theorem az_hk147 : ∀ pc n i nx : Nat, az_hnd 147 pc n = some (i, nx) → az_hok 147 pc n i nx := by
  intro pc n i nx h
  unfold az_hnd at h
  obtain ⟨q, h1, h2⟩ := Option.map_eq_some_iff.mp h
  have h3 := List.mem_of_find?_eq_some h1
  have h4 := List.find?_some h1
  simp only [Bool.and_eq_true, beq_iff_eq, decide_eq_true_eq] at h4
  rw [show az_xt 147 = [(0, 12, 1, 5, 17), (0, 12, 2, 5, 21), (0, 12, 3, 5, 25)] by decide +kernel] at h3
  simp only [List.mem_cons, List.not_mem_nil, or_false] at h3
  rcases h3 with rfl | rfl | rfl
  · obtain ⟨⟨ha, hb⟩, rfl⟩ := h4
    cases h2
    exact ⟨[], 0, 12, 15, 13, [(0, 12, 19, 15), (0, 12, 23, 25)], by decide +kernel, ⟨ha, hb, by decide⟩, ⟨by decide +kernel, az_g 320 (by decide +kernel) (by decide +kernel)⟩, fun _ h => absurd h List.not_mem_nil, Or.inl ⟨by decide +kernel, rfl⟩, by decide +kernel, by decide +kernel⟩
  · obtain ⟨⟨ha, hb⟩, rfl⟩ := h4
    cases h2
    exact ⟨[(0, 12, 15, 13)], 0, 12, 19, 15, [(0, 12, 23, 25)], by decide +kernel, ⟨ha, hb, by decide⟩, ⟨by decide +kernel, az_g 321 (by decide +kernel) (by decide +kernel)⟩, List.forall_mem_cons.mpr ⟨⟨by decide, 1, az_g 320 (by decide +kernel) (by decide +kernel), by decide⟩, fun _ h => absurd h List.not_mem_nil⟩, Or.inl ⟨by decide +kernel, rfl⟩, by decide +kernel, by decide +kernel⟩
  · obtain ⟨⟨ha, hb⟩, rfl⟩ := h4
    cases h2
    exact ⟨[(0, 12, 15, 13), (0, 12, 19, 15)], 0, 12, 23, 25, [], by decide +kernel, ⟨ha, hb, by decide⟩, ⟨by decide +kernel, az_g 426 (by decide +kernel) (by decide +kernel)⟩, List.forall_mem_cons.mpr ⟨⟨by decide, 1, az_g 320 (by decide +kernel) (by decide +kernel), by decide⟩, List.forall_mem_cons.mpr ⟨⟨by decide, 2, az_g 321 (by decide +kernel) (by decide +kernel), by decide⟩, fun _ h => absurd h List.not_mem_nil⟩⟩, Or.inl ⟨by decide +kernel, rfl⟩, by decide +kernel, by decide +kernel⟩
theorem az_hk148 : ∀ pc n i nx : Nat, az_hnd 148 pc n = some (i, nx) → az_hok 148 pc n i nx := by
  intro pc n i nx h
  unfold az_hnd at h
  obtain ⟨q, h1, h2⟩ := Option.map_eq_some_iff.mp h
  have h3 := List.mem_of_find?_eq_some h1
  have h4 := List.find?_some h1
  simp only [Bool.and_eq_true, beq_iff_eq, decide_eq_true_eq] at h4
  rw [show az_xt 148 = [(0, 12, 2, 5, 17), (0, 12, 3, 5, 21)] by decide +kernel] at h3
  simp only [List.mem_cons, List.not_mem_nil, or_false] at h3
  rcases h3 with rfl | rfl
  · obtain ⟨⟨ha, hb⟩, rfl⟩ := h4
    cases h2
    exact ⟨[], 0, 12, 15, 15, [(0, 12, 19, 25)], by decide +kernel, ⟨ha, hb, by decide⟩, ⟨by decide +kernel, az_g 321 (by decide +kernel) (by decide +kernel)⟩, fun _ h => absurd h List.not_mem_nil, Or.inl ⟨by decide +kernel, rfl⟩, by decide +kernel, by decide +kernel⟩
  · obtain ⟨⟨ha, hb⟩, rfl⟩ := h4
    cases h2
    exact ⟨[(0, 12, 15, 15)], 0, 12, 19, 25, [], by decide +kernel, ⟨ha, hb, by decide⟩, ⟨by decide +kernel, az_g 426 (by decide +kernel) (by decide +kernel)⟩, List.forall_mem_cons.mpr ⟨⟨by decide, 2, az_g 321 (by decide +kernel) (by decide +kernel), by decide⟩, fun _ h => absurd h List.not_mem_nil⟩, Or.inl ⟨by decide +kernel, rfl⟩, by decide +kernel, by decide +kernel⟩
theorem az_hk149 : ∀ pc n i nx : Nat, az_hnd 149 pc n = some (i, nx) → az_hok 149 pc n i nx := by
  intro pc n i nx h
  unfold az_hnd at h
  obtain ⟨q, h1, h2⟩ := Option.map_eq_some_iff.mp h
  have h3 := List.mem_of_find?_eq_some h1
  have h4 := List.find?_some h1
  simp only [Bool.and_eq_true, beq_iff_eq, decide_eq_true_eq] at h4
  rw [show az_xt 149 = [(0, 19, 1, 5, 24), (0, 19, 2, 5, 28)] by decide +kernel] at h3
  simp only [List.mem_cons, List.not_mem_nil, or_false] at h3
  rcases h3 with rfl | rfl
  · obtain ⟨⟨ha, hb⟩, rfl⟩ := h4
    cases h2
    exact ⟨[], 0, 19, 22, 13, [(0, 19, 26, 15)], by decide +kernel, ⟨ha, hb, by decide⟩, ⟨by decide +kernel, az_g 320 (by decide +kernel) (by decide +kernel)⟩, fun _ h => absurd h List.not_mem_nil, Or.inl ⟨by decide +kernel, rfl⟩, by decide +kernel, by decide +kernel⟩
  · obtain ⟨⟨ha, hb⟩, rfl⟩ := h4
    cases h2
    exact ⟨[(0, 19, 22, 13)], 0, 19, 26, 15, [], by decide +kernel, ⟨ha, hb, by decide⟩, ⟨by decide +kernel, az_g 321 (by decide +kernel) (by decide +kernel)⟩, List.forall_mem_cons.mpr ⟨⟨by decide, 1, az_g 320 (by decide +kernel) (by decide +kernel), by decide⟩, fun _ h => absurd h List.not_mem_nil⟩, Or.inl ⟨by decide +kernel, rfl⟩, by decide +kernel, by decide +kernel⟩
theorem az_hk150 : ∀ pc n i nx : Nat, az_hnd 150 pc n = some (i, nx) → az_hok 150 pc n i nx := by
  intro pc n i nx h
  unfold az_hnd at h
  obtain ⟨q, h1, h2⟩ := Option.map_eq_some_iff.mp h
  have h3 := List.mem_of_find?_eq_some h1
  have h4 := List.find?_some h1
  simp only [Bool.and_eq_true, beq_iff_eq, decide_eq_true_eq] at h4
  rw [show az_xt 150 = [(0, 9, 2, 3, 13)] by decide +kernel] at h3
  simp only [List.mem_cons, List.not_mem_nil, or_false] at h3
  rcases h3 with rfl
  · obtain ⟨⟨ha, hb⟩, rfl⟩ := h4
    cases h2
    exact ⟨[], 0, 9, 12, 15, [], by decide +kernel, ⟨ha, hb, by decide⟩, ⟨by decide +kernel, az_g 321 (by decide +kernel) (by decide +kernel)⟩, fun _ h => absurd h List.not_mem_nil, Or.inr ⟨3, rfl, by decide +kernel, rfl⟩, by decide +kernel, by decide +kernel⟩
theorem az_hk151 : ∀ pc n i nx : Nat, az_hnd 151 pc n = some (i, nx) → az_hok 151 pc n i nx := by
  intro pc n i nx h
  unfold az_hnd at h
  obtain ⟨q, h1, h2⟩ := Option.map_eq_some_iff.mp h
  have h3 := List.mem_of_find?_eq_some h1
  have h4 := List.find?_some h1
  simp only [Bool.and_eq_true, beq_iff_eq, decide_eq_true_eq] at h4
  rw [show az_xt 151 = [(0, 9, 2, 3, 13)] by decide +kernel] at h3
  simp only [List.mem_cons, List.not_mem_nil, or_false] at h3
  rcases h3 with rfl
  · obtain ⟨⟨ha, hb⟩, rfl⟩ := h4
    cases h2
    exact ⟨[], 0, 9, 12, 15, [], by decide +kernel, ⟨ha, hb, by decide⟩, ⟨by decide +kernel, az_g 321 (by decide +kernel) (by decide +kernel)⟩, fun _ h => absurd h List.not_mem_nil, Or.inr ⟨3, rfl, by decide +kernel, rfl⟩, by decide +kernel, by decide +kernel⟩
theorem az_hk152 : ∀ pc n i nx : Nat, az_hnd 152 pc n = some (i, nx) → az_hok 152 pc n i nx := by
  intro pc n i nx h
  unfold az_hnd at h
  obtain ⟨q, h1, h2⟩ := Option.map_eq_some_iff.mp h
  have h3 := List.mem_of_find?_eq_some h1
  have h4 := List.find?_some h1
  simp only [Bool.and_eq_true, beq_iff_eq, decide_eq_true_eq] at h4
  rw [show az_xt 152 = [(0, 9, 2, 3, 13)] by decide +kernel] at h3
  simp only [List.mem_cons, List.not_mem_nil, or_false] at h3
  rcases h3 with rfl
  · obtain ⟨⟨ha, hb⟩, rfl⟩ := h4
    cases h2
    exact ⟨[], 0, 9, 12, 15, [], by decide +kernel, ⟨ha, hb, by decide⟩, ⟨by decide +kernel, az_g 321 (by decide +kernel) (by decide +kernel)⟩, fun _ h => absurd h List.not_mem_nil, Or.inr ⟨3, rfl, by decide +kernel, rfl⟩, by decide +kernel, by decide +kernel⟩
theorem az_hk153 : ∀ pc n i nx : Nat, az_hnd 153 pc n = some (i, nx) → az_hok 153 pc n i nx := by
  intro pc n i nx h
  unfold az_hnd at h
  obtain ⟨q, h1, h2⟩ := Option.map_eq_some_iff.mp h
  have h3 := List.mem_of_find?_eq_some h1
  have h4 := List.find?_some h1
  simp only [Bool.and_eq_true, beq_iff_eq, decide_eq_true_eq] at h4
  rw [show az_xt 153 = [(0, 10, 1, 4, 15), (0, 10, 2, 4, 19), (0, 10, 3, 4, 23)] by decide +kernel] at h3
  simp only [List.mem_cons, List.not_mem_nil, or_false] at h3
  rcases h3 with rfl | rfl | rfl
  · obtain ⟨⟨ha, hb⟩, rfl⟩ := h4
    cases h2
    exact ⟨[], 0, 10, 13, 13, [(0, 10, 17, 15), (0, 10, 21, 25)], by decide +kernel, ⟨ha, hb, by decide⟩, ⟨by decide +kernel, az_g 320 (by decide +kernel) (by decide +kernel)⟩, fun _ h => absurd h List.not_mem_nil, Or.inl ⟨by decide +kernel, rfl⟩, by decide +kernel, by decide +kernel⟩
  · obtain ⟨⟨ha, hb⟩, rfl⟩ := h4
    cases h2
    exact ⟨[(0, 10, 13, 13)], 0, 10, 17, 15, [(0, 10, 21, 25)], by decide +kernel, ⟨ha, hb, by decide⟩, ⟨by decide +kernel, az_g 321 (by decide +kernel) (by decide +kernel)⟩, List.forall_mem_cons.mpr ⟨⟨by decide, 1, az_g 320 (by decide +kernel) (by decide +kernel), by decide⟩, fun _ h => absurd h List.not_mem_nil⟩, Or.inl ⟨by decide +kernel, rfl⟩, by decide +kernel, by decide +kernel⟩
  · obtain ⟨⟨ha, hb⟩, rfl⟩ := h4
    cases h2
    exact ⟨[(0, 10, 13, 13), (0, 10, 17, 15)], 0, 10, 21, 25, [], by decide +kernel, ⟨ha, hb, by decide⟩, ⟨by decide +kernel, az_g 426 (by decide +kernel) (by decide +kernel)⟩, List.forall_mem_cons.mpr ⟨⟨by decide, 1, az_g 320 (by decide +kernel) (by decide +kernel), by decide⟩, List.forall_mem_cons.mpr ⟨⟨by decide, 2, az_g 321 (by decide +kernel) (by decide +kernel), by decide⟩, fun _ h => absurd h List.not_mem_nil⟩⟩, Or.inl ⟨by decide +kernel, rfl⟩, by decide +kernel, by decide +kernel⟩
theorem az_hk154 : ∀ pc n i nx : Nat, az_hnd 154 pc n = some (i, nx) → az_hok 154 pc n i nx := by
  intro pc n i nx h
  unfold az_hnd at h
  obtain ⟨q, h1, h2⟩ := Option.map_eq_some_iff.mp h
  have h3 := List.mem_of_find?_eq_some h1
  have h4 := List.find?_some h1
  simp only [Bool.and_eq_true, beq_iff_eq, decide_eq_true_eq] at h4
  rw [show az_xt 154 = [(0, 10, 1, 4, 15), (0, 10, 2, 4, 19)] by decide +kernel] at h3
  simp only [List.mem_cons, List.not_mem_nil, or_false] at h3
  rcases h3 with rfl | rfl
  · obtain ⟨⟨ha, hb⟩, rfl⟩ := h4
    cases h2
    exact ⟨[], 0, 10, 13, 13, [(0, 10, 17, 15)], by decide +kernel, ⟨ha, hb, by decide⟩, ⟨by decide +kernel, az_g 320 (by decide +kernel) (by decide +kernel)⟩, fun _ h => absurd h List.not_mem_nil, Or.inl ⟨by decide +kernel, rfl⟩, by decide +kernel, by decide +kernel⟩
  · obtain ⟨⟨ha, hb⟩, rfl⟩ := h4
    cases h2
    exact ⟨[(0, 10, 13, 13)], 0, 10, 17, 15, [], by decide +kernel, ⟨ha, hb, by decide⟩, ⟨by decide +kernel, az_g 321 (by decide +kernel) (by decide +kernel)⟩, List.forall_mem_cons.mpr ⟨⟨by decide, 1, az_g 320 (by decide +kernel) (by decide +kernel), by decide⟩, fun _ h => absurd h List.not_mem_nil⟩, Or.inl ⟨by decide +kernel, rfl⟩, by decide +kernel, by decide +kernel⟩
theorem az_hk155 : ∀ pc n i nx : Nat, az_hnd 155 pc n = some (i, nx) → az_hok 155 pc n i nx := by
  intro pc n i nx h
  unfold az_hnd at h
  obtain ⟨q, h1, h2⟩ := Option.map_eq_some_iff.mp h
  have h3 := List.mem_of_find?_eq_some h1
  have h4 := List.find?_some h1
  simp only [Bool.and_eq_true, beq_iff_eq, decide_eq_true_eq] at h4
  rw [show az_xt 155 = [(0, 10, 1, 4, 15), (0, 10, 2, 4, 19), (0, 10, 3, 4, 23)] by decide +kernel] at h3
  simp only [List.mem_cons, List.not_mem_nil, or_false] at h3
  rcases h3 with rfl | rfl | rfl
  · obtain ⟨⟨ha, hb⟩, rfl⟩ := h4
    cases h2
    exact ⟨[], 0, 10, 13, 13, [(0, 10, 17, 15), (0, 10, 21, 25)], by decide +kernel, ⟨ha, hb, by decide⟩, ⟨by decide +kernel, az_g 320 (by decide +kernel) (by decide +kernel)⟩, fun _ h => absurd h List.not_mem_nil, Or.inl ⟨by decide +kernel, rfl⟩, by decide +kernel, by decide +kernel⟩
  · obtain ⟨⟨ha, hb⟩, rfl⟩ := h4
    cases h2
    exact ⟨[(0, 10, 13, 13)], 0, 10, 17, 15, [(0, 10, 21, 25)], by decide +kernel, ⟨ha, hb, by decide⟩, ⟨by decide +kernel, az_g 321 (by decide +kernel) (by decide +kernel)⟩, List.forall_mem_cons.mpr ⟨⟨by decide, 1, az_g 320 (by decide +kernel) (by decide +kernel), by decide⟩, fun _ h => absurd h List.not_mem_nil⟩, Or.inl ⟨by decide +kernel, rfl⟩, by decide +kernel, by decide +kernel⟩
  · obtain ⟨⟨ha, hb⟩, rfl⟩ := h4
    cases h2
    exact ⟨[(0, 10, 13, 13), (0, 10, 17, 15)], 0, 10, 21, 25, [], by decide +kernel, ⟨ha, hb, by decide⟩, ⟨by decide +kernel, az_g 426 (by decide +kernel) (by decide +kernel)⟩, List.forall_mem_cons.mpr ⟨⟨by decide, 1, az_g 320 (by decide +kernel) (by decide +kernel), by decide⟩, List.forall_mem_cons.mpr ⟨⟨by decide, 2, az_g 321 (by decide +kernel) (by decide +kernel), by decide⟩, fun _ h => absurd h List.not_mem_nil⟩⟩, Or.inl ⟨by decide +kernel, rfl⟩, by decide +kernel, by decide +kernel⟩
theorem az_hk156 : ∀ pc n i nx : Nat, az_hnd 156 pc n = some (i, nx) → az_hok 156 pc n i nx := by
  intro pc n i nx h
  unfold az_hnd at h
  obtain ⟨q, h1, h2⟩ := Option.map_eq_some_iff.mp h
  have h3 := List.mem_of_find?_eq_some h1
  have h4 := List.find?_some h1
  simp only [Bool.and_eq_true, beq_iff_eq, decide_eq_true_eq] at h4
  rw [show az_xt 156 = [(0, 10, 1, 4, 15), (0, 10, 2, 4, 19), (0, 10, 3, 4, 23)] by decide +kernel] at h3
  simp only [List.mem_cons, List.not_mem_nil, or_false] at h3
  rcases h3 with rfl | rfl | rfl
  · obtain ⟨⟨ha, hb⟩, rfl⟩ := h4
    cases h2
    exact ⟨[], 0, 10, 13, 13, [(0, 10, 17, 15), (0, 10, 21, 25)], by decide +kernel, ⟨ha, hb, by decide⟩, ⟨by decide +kernel, az_g 320 (by decide +kernel) (by decide +kernel)⟩, fun _ h => absurd h List.not_mem_nil, Or.inl ⟨by decide +kernel, rfl⟩, by decide +kernel, by decide +kernel⟩
  · obtain ⟨⟨ha, hb⟩, rfl⟩ := h4
    cases h2
    exact ⟨[(0, 10, 13, 13)], 0, 10, 17, 15, [(0, 10, 21, 25)], by decide +kernel, ⟨ha, hb, by decide⟩, ⟨by decide +kernel, az_g 321 (by decide +kernel) (by decide +kernel)⟩, List.forall_mem_cons.mpr ⟨⟨by decide, 1, az_g 320 (by decide +kernel) (by decide +kernel), by decide⟩, fun _ h => absurd h List.not_mem_nil⟩, Or.inl ⟨by decide +kernel, rfl⟩, by decide +kernel, by decide +kernel⟩
  · obtain ⟨⟨ha, hb⟩, rfl⟩ := h4
    cases h2
    exact ⟨[(0, 10, 13, 13), (0, 10, 17, 15)], 0, 10, 21, 25, [], by decide +kernel, ⟨ha, hb, by decide⟩, ⟨by decide +kernel, az_g 426 (by decide +kernel) (by decide +kernel)⟩, List.forall_mem_cons.mpr ⟨⟨by decide, 1, az_g 320 (by decide +kernel) (by decide +kernel), by decide⟩, List.forall_mem_cons.mpr ⟨⟨by decide, 2, az_g 321 (by decide +kernel) (by decide +kernel), by decide⟩, fun _ h => absurd h List.not_mem_nil⟩⟩, Or.inl ⟨by decide +kernel, rfl⟩, by decide +kernel, by decide +kernel⟩
theorem az_hk157 : ∀ pc n i nx : Nat, az_hnd 157 pc n = some (i, nx) → az_hok 157 pc n i nx := by
  intro pc n i nx h
  unfold az_hnd at h
  obtain ⟨q, h1, h2⟩ := Option.map_eq_some_iff.mp h
  have h3 := List.mem_of_find?_eq_some h1
  have h4 := List.find?_some h1
  simp only [Bool.and_eq_true, beq_iff_eq, decide_eq_true_eq] at h4
  rw [show az_xt 157 = [(0, 10, 1, 4, 15), (0, 10, 2, 4, 19), (0, 10, 3, 4, 23)] by decide +kernel] at h3
  simp only [List.mem_cons, List.not_mem_nil, or_false] at h3
  rcases h3 with rfl | rfl | rfl
  · obtain ⟨⟨ha, hb⟩, rfl⟩ := h4
    cases h2
    exact ⟨[], 0, 10, 13, 13, [(0, 10, 17, 15), (0, 10, 21, 25)], by decide +kernel, ⟨ha, hb, by decide⟩, ⟨by decide +kernel, az_g 320 (by decide +kernel) (by decide +kernel)⟩, fun _ h => absurd h List.not_mem_nil, Or.inl ⟨by decide +kernel, rfl⟩, by decide +kernel, by decide +kernel⟩
  · obtain ⟨⟨ha, hb⟩, rfl⟩ := h4
    cases h2
    exact ⟨[(0, 10, 13, 13)], 0, 10, 17, 15, [(0, 10, 21, 25)], by decide +kernel, ⟨ha, hb, by decide⟩, ⟨by decide +kernel, az_g 321 (by decide +kernel) (by decide +kernel)⟩, List.forall_mem_cons.mpr ⟨⟨by decide, 1, az_g 320 (by decide +kernel) (by decide +kernel), by decide⟩, fun _ h => absurd h List.not_mem_nil⟩, Or.inl ⟨by decide +kernel, rfl⟩, by decide +kernel, by decide +kernel⟩
  · obtain ⟨⟨ha, hb⟩, rfl⟩ := h4
    cases h2
    exact ⟨[(0, 10, 13, 13), (0, 10, 17, 15)], 0, 10, 21, 25, [], by decide +kernel, ⟨ha, hb, by decide⟩, ⟨by decide +kernel, az_g 426 (by decide +kernel) (by decide +kernel)⟩, List.forall_mem_cons.mpr ⟨⟨by decide, 1, az_g 320 (by decide +kernel) (by decide +kernel), by decide⟩, List.forall_mem_cons.mpr ⟨⟨by decide, 2, az_g 321 (by decide +kernel) (by decide +kernel), by decide⟩, fun _ h => absurd h List.not_mem_nil⟩⟩, Or.inl ⟨by decide +kernel, rfl⟩, by decide +kernel, by decide +kernel⟩
theorem az_hk158 : ∀ pc n i nx : Nat, az_hnd 158 pc n = some (i, nx) → az_hok 158 pc n i nx := by
  intro pc n i nx h
  unfold az_hnd at h
  obtain ⟨q, h1, h2⟩ := Option.map_eq_some_iff.mp h
  have h3 := List.mem_of_find?_eq_some h1
  have h4 := List.find?_some h1
  simp only [Bool.and_eq_true, beq_iff_eq, decide_eq_true_eq] at h4
  rw [show az_xt 158 = [(0, 17, 1, 4, 22), (0, 17, 2, 4, 26), (0, 17, 3, 4, 30)] by decide +kernel] at h3
  simp only [List.mem_cons, List.not_mem_nil, or_false] at h3
  rcases h3 with rfl | rfl | rfl
  · obtain ⟨⟨ha, hb⟩, rfl⟩ := h4
    cases h2
    exact ⟨[], 0, 17, 20, 13, [(0, 17, 24, 15), (0, 17, 28, 25)], by decide +kernel, ⟨ha, hb, by decide⟩, ⟨by decide +kernel, az_g 320 (by decide +kernel) (by decide +kernel)⟩, fun _ h => absurd h List.not_mem_nil, Or.inl ⟨by decide +kernel, rfl⟩, by decide +kernel, by decide +kernel⟩
  · obtain ⟨⟨ha, hb⟩, rfl⟩ := h4
    cases h2
    exact ⟨[(0, 17, 20, 13)], 0, 17, 24, 15, [(0, 17, 28, 25)], by decide +kernel, ⟨ha, hb, by decide⟩, ⟨by decide +kernel, az_g 321 (by decide +kernel) (by decide +kernel)⟩, List.forall_mem_cons.mpr ⟨⟨by decide, 1, az_g 320 (by decide +kernel) (by decide +kernel), by decide⟩, fun _ h => absurd h List.not_mem_nil⟩, Or.inl ⟨by decide +kernel, rfl⟩, by decide +kernel, by decide +kernel⟩
  · obtain ⟨⟨ha, hb⟩, rfl⟩ := h4
    cases h2
    exact ⟨[(0, 17, 20, 13), (0, 17, 24, 15)], 0, 17, 28, 25, [], by decide +kernel, ⟨ha, hb, by decide⟩, ⟨by decide +kernel, az_g 426 (by decide +kernel) (by decide +kernel)⟩, List.forall_mem_cons.mpr ⟨⟨by decide, 1, az_g 320 (by decide +kernel) (by decide +kernel), by decide⟩, List.forall_mem_cons.mpr ⟨⟨by decide, 2, az_g 321 (by decide +kernel) (by decide +kernel), by decide⟩, fun _ h => absurd h List.not_mem_nil⟩⟩, Or.inl ⟨by decide +kernel, rfl⟩, by decide +kernel, by decide +kernel⟩
theorem az_hk159 : ∀ pc n i nx : Nat, az_hnd 159 pc n = some (i, nx) → az_hok 159 pc n i nx := by
  intro pc n i nx h
  unfold az_hnd at h
  obtain ⟨q, h1, h2⟩ := Option.map_eq_some_iff.mp h
  have h3 := List.mem_of_find?_eq_some h1
  have h4 := List.find?_some h1
  simp only [Bool.and_eq_true, beq_iff_eq, decide_eq_true_eq] at h4
  rw [show az_xt 159 = [(0, 16, 1, 3, 20)] by decide +kernel] at h3
  simp only [List.mem_cons, List.not_mem_nil, or_false] at h3
  rcases h3 with rfl
  · obtain ⟨⟨ha, hb⟩, rfl⟩ := h4
    cases h2
    exact ⟨[], 0, 16, 19, 13, [], by decide +kernel, ⟨ha, hb, by decide⟩, ⟨by decide +kernel, az_g 320 (by decide +kernel) (by decide +kernel)⟩, fun _ h => absurd h List.not_mem_nil, Or.inr ⟨3, rfl, by decide +kernel, rfl⟩, by decide +kernel, by decide +kernel⟩
theorem az_hk160 : ∀ pc n i nx : Nat, az_hnd 160 pc n = some (i, nx) → az_hok 160 pc n i nx := by
  intro pc n i nx h
  unfold az_hnd at h
  obtain ⟨q, h1, h2⟩ := Option.map_eq_some_iff.mp h
  have h3 := List.mem_of_find?_eq_some h1
  have h4 := List.find?_some h1
  simp only [Bool.and_eq_true, beq_iff_eq, decide_eq_true_eq] at h4
  rw [show az_xt 160 = [(0, 8, 3, 2, 12)] by decide +kernel] at h3
  simp only [List.mem_cons, List.not_mem_nil, or_false] at h3
  rcases h3 with rfl
  · obtain ⟨⟨ha, hb⟩, rfl⟩ := h4
    cases h2
    exact ⟨[], 0, 8, 11, 25, [], by decide +kernel, ⟨ha, hb, by decide⟩, ⟨by decide +kernel, az_g 426 (by decide +kernel) (by decide +kernel)⟩, fun _ h => absurd h List.not_mem_nil, Or.inr ⟨2, rfl, by decide +kernel, rfl⟩, by decide +kernel, by decide +kernel⟩
theorem az_hk161 : ∀ pc n i nx : Nat, az_hnd 161 pc n = some (i, nx) → az_hok 161 pc n i nx := by
  intro pc n i nx h
  unfold az_hnd at h
  obtain ⟨q, h1, h2⟩ := Option.map_eq_some_iff.mp h
  have h3 := List.mem_of_find?_eq_some h1
  have h4 := List.find?_some h1
  simp only [Bool.and_eq_true, beq_iff_eq, decide_eq_true_eq] at h4
  rw [show az_xt 161 = [(0, 10, 1, 4, 15), (0, 10, 2, 4, 19), (0, 10, 3, 4, 23)] by decide +kernel] at h3
  simp only [List.mem_cons, List.not_mem_nil, or_false] at h3
  rcases h3 with rfl | rfl | rfl
  · obtain ⟨⟨ha, hb⟩, rfl⟩ := h4
    cases h2
    exact ⟨[], 0, 10, 13, 13, [(0, 10, 17, 15), (0, 10, 21, 25)], by decide +kernel, ⟨ha, hb, by decide⟩, ⟨by decide +kernel, az_g 320 (by decide +kernel) (by decide +kernel)⟩, fun _ h => absurd h List.not_mem_nil, Or.inl ⟨by decide +kernel, rfl⟩, by decide +kernel, by decide +kernel⟩
  · obtain ⟨⟨ha, hb⟩, rfl⟩ := h4
    cases h2
    exact ⟨[(0, 10, 13, 13)], 0, 10, 17, 15, [(0, 10, 21, 25)], by decide +kernel, ⟨ha, hb, by decide⟩, ⟨by decide +kernel, az_g 321 (by decide +kernel) (by decide +kernel)⟩, List.forall_mem_cons.mpr ⟨⟨by decide, 1, az_g 320 (by decide +kernel) (by decide +kernel), by decide⟩, fun _ h => absurd h List.not_mem_nil⟩, Or.inl ⟨by decide +kernel, rfl⟩, by decide +kernel, by decide +kernel⟩
  · obtain ⟨⟨ha, hb⟩, rfl⟩ := h4
    cases h2
    exact ⟨[(0, 10, 13, 13), (0, 10, 17, 15)], 0, 10, 21, 25, [], by decide +kernel, ⟨ha, hb, by decide⟩, ⟨by decide +kernel, az_g 426 (by decide +kernel) (by decide +kernel)⟩, List.forall_mem_cons.mpr ⟨⟨by decide, 1, az_g 320 (by decide +kernel) (by decide +kernel), by decide⟩, List.forall_mem_cons.mpr ⟨⟨by decide, 2, az_g 321 (by decide +kernel) (by decide +kernel), by decide⟩, fun _ h => absurd h List.not_mem_nil⟩⟩, Or.inl ⟨by decide +kernel, rfl⟩, by decide +kernel, by decide +kernel⟩
theorem az_hk162 : ∀ pc n i nx : Nat, az_hnd 162 pc n = some (i, nx) → az_hok 162 pc n i nx := by
  intro pc n i nx h
  unfold az_hnd at h
  obtain ⟨q, h1, h2⟩ := Option.map_eq_some_iff.mp h
  have h3 := List.mem_of_find?_eq_some h1
  have h4 := List.find?_some h1
  simp only [Bool.and_eq_true, beq_iff_eq, decide_eq_true_eq] at h4
  rw [show az_xt 162 = [(0, 10, 1, 4, 15), (0, 10, 2, 4, 19)] by decide +kernel] at h3
  simp only [List.mem_cons, List.not_mem_nil, or_false] at h3
  rcases h3 with rfl | rfl
  · obtain ⟨⟨ha, hb⟩, rfl⟩ := h4
    cases h2
    exact ⟨[], 0, 10, 13, 13, [(0, 10, 17, 15)], by decide +kernel, ⟨ha, hb, by decide⟩, ⟨by decide +kernel, az_g 320 (by decide +kernel) (by decide +kernel)⟩, fun _ h => absurd h List.not_mem_nil, Or.inl ⟨by decide +kernel, rfl⟩, by decide +kernel, by decide +kernel⟩
  · obtain ⟨⟨ha, hb⟩, rfl⟩ := h4
    cases h2
    exact ⟨[(0, 10, 13, 13)], 0, 10, 17, 15, [], by decide +kernel, ⟨ha, hb, by decide⟩, ⟨by decide +kernel, az_g 321 (by decide +kernel) (by decide +kernel)⟩, List.forall_mem_cons.mpr ⟨⟨by decide, 1, az_g 320 (by decide +kernel) (by decide +kernel), by decide⟩, fun _ h => absurd h List.not_mem_nil⟩, Or.inl ⟨by decide +kernel, rfl⟩, by decide +kernel, by decide +kernel⟩
theorem az_hk163 : ∀ pc n i nx : Nat, az_hnd 163 pc n = some (i, nx) → az_hok 163 pc n i nx := by
  intro pc n i nx h
  unfold az_hnd at h
  obtain ⟨q, h1, h2⟩ := Option.map_eq_some_iff.mp h
  have h3 := List.mem_of_find?_eq_some h1
  have h4 := List.find?_some h1
  simp only [Bool.and_eq_true, beq_iff_eq, decide_eq_true_eq] at h4
  rw [show az_xt 163 = [(0, 10, 1, 4, 15), (0, 10, 2, 4, 19)] by decide +kernel] at h3
  simp only [List.mem_cons, List.not_mem_nil, or_false] at h3
  rcases h3 with rfl | rfl
  · obtain ⟨⟨ha, hb⟩, rfl⟩ := h4
    cases h2
    exact ⟨[], 0, 10, 13, 13, [(0, 10, 17, 15)], by decide +kernel, ⟨ha, hb, by decide⟩, ⟨by decide +kernel, az_g 320 (by decide +kernel) (by decide +kernel)⟩, fun _ h => absurd h List.not_mem_nil, Or.inl ⟨by decide +kernel, rfl⟩, by decide +kernel, by decide +kernel⟩
  · obtain ⟨⟨ha, hb⟩, rfl⟩ := h4
    cases h2
    exact ⟨[(0, 10, 13, 13)], 0, 10, 17, 15, [], by decide +kernel, ⟨ha, hb, by decide⟩, ⟨by decide +kernel, az_g 321 (by decide +kernel) (by decide +kernel)⟩, List.forall_mem_cons.mpr ⟨⟨by decide, 1, az_g 320 (by decide +kernel) (by decide +kernel), by decide⟩, fun _ h => absurd h List.not_mem_nil⟩, Or.inl ⟨by decide +kernel, rfl⟩, by decide +kernel, by decide +kernel⟩
theorem az_hk164 : ∀ pc n i nx : Nat, az_hnd 164 pc n = some (i, nx) → az_hok 164 pc n i nx := by
  intro pc n i nx h
  unfold az_hnd at h
  obtain ⟨q, h1, h2⟩ := Option.map_eq_some_iff.mp h
  have h3 := List.mem_of_find?_eq_some h1
  have h4 := List.find?_some h1
  simp only [Bool.and_eq_true, beq_iff_eq, decide_eq_true_eq] at h4
  rw [show az_xt 164 = [(0, 10, 1, 4, 15)] by decide +kernel] at h3
  simp only [List.mem_cons, List.not_mem_nil, or_false] at h3
  rcases h3 with rfl
  · obtain ⟨⟨ha, hb⟩, rfl⟩ := h4
    cases h2
    exact ⟨[], 0, 10, 13, 13, [], by decide +kernel, ⟨ha, hb, by decide⟩, ⟨by decide +kernel, az_g 320 (by decide +kernel) (by decide +kernel)⟩, fun _ h => absurd h List.not_mem_nil, Or.inl ⟨by decide +kernel, rfl⟩, by decide +kernel, by decide +kernel⟩
theorem az_hk165 : ∀ pc n i nx : Nat, az_hnd 165 pc n = some (i, nx) → az_hok 165 pc n i nx := by
  intro pc n i nx h
  unfold az_hnd at h
  obtain ⟨q, h1, h2⟩ := Option.map_eq_some_iff.mp h
  have h3 := List.mem_of_find?_eq_some h1
  have h4 := List.find?_some h1
  simp only [Bool.and_eq_true, beq_iff_eq, decide_eq_true_eq] at h4
  rw [show az_xt 165 = [(0, 10, 1, 4, 15), (0, 10, 2, 4, 19)] by decide +kernel] at h3
  simp only [List.mem_cons, List.not_mem_nil, or_false] at h3
  rcases h3 with rfl | rfl
  · obtain ⟨⟨ha, hb⟩, rfl⟩ := h4
    cases h2
    exact ⟨[], 0, 10, 13, 13, [(0, 10, 17, 15)], by decide +kernel, ⟨ha, hb, by decide⟩, ⟨by decide +kernel, az_g 320 (by decide +kernel) (by decide +kernel)⟩, fun _ h => absurd h List.not_mem_nil, Or.inl ⟨by decide +kernel, rfl⟩, by decide +kernel, by decide +kernel⟩
  · obtain ⟨⟨ha, hb⟩, rfl⟩ := h4
    cases h2
    exact ⟨[(0, 10, 13, 13)], 0, 10, 17, 15, [], by decide +kernel, ⟨ha, hb, by decide⟩, ⟨by decide +kernel, az_g 321 (by decide +kernel) (by decide +kernel)⟩, List.forall_mem_cons.mpr ⟨⟨by decide, 1, az_g 320 (by decide +kernel) (by decide +kernel), by decide⟩, fun _ h => absurd h List.not_mem_nil⟩, Or.inl ⟨by decide +kernel, rfl⟩, by decide +kernel, by decide +kernel⟩
theorem az_hk166 : ∀ pc n i nx : Nat, az_hnd 166 pc n = some (i, nx) → az_hok 166 pc n i nx := by
  intro pc n i nx h
  unfold az_hnd at h
  obtain ⟨q, h1, h2⟩ := Option.map_eq_some_iff.mp h
  have h3 := List.mem_of_find?_eq_some h1
  have h4 := List.find?_some h1
  simp only [Bool.and_eq_true, beq_iff_eq, decide_eq_true_eq] at h4
  rw [show az_xt 166 = [(0, 10, 1, 4, 15)] by decide +kernel] at h3
  simp only [List.mem_cons, List.not_mem_nil, or_false] at h3
  rcases h3 with rfl
  · obtain ⟨⟨ha, hb⟩, rfl⟩ := h4
    cases h2
    exact ⟨[], 0, 10, 13, 13, [], by decide +kernel, ⟨ha, hb, by decide⟩, ⟨by decide +kernel, az_g 320 (by decide +kernel) (by decide +kernel)⟩, fun _ h => absurd h List.not_mem_nil, Or.inl ⟨by decide +kernel, rfl⟩, by decide +kernel, by decide +kernel⟩
theorem az_hk167 : ∀ pc n i nx : Nat, az_hnd 167 pc n = some (i, nx) → az_hok 167 pc n i nx := by
  intro pc n i nx h
  unfold az_hnd at h
  obtain ⟨q, h1, h2⟩ := Option.map_eq_some_iff.mp h
  have h3 := List.mem_of_find?_eq_some h1
  have h4 := List.find?_some h1
  simp only [Bool.and_eq_true, beq_iff_eq, decide_eq_true_eq] at h4
  rw [show az_xt 167 = [(0, 10, 1, 4, 15), (0, 10, 2, 4, 19)] by decide +kernel] at h3
  simp only [List.mem_cons, List.not_mem_nil, or_false] at h3
  rcases h3 with rfl | rfl
  · obtain ⟨⟨ha, hb⟩, rfl⟩ := h4
    cases h2
    exact ⟨[], 0, 10, 13, 13, [(0, 10, 17, 15)], by decide +kernel, ⟨ha, hb, by decide⟩, ⟨by decide +kernel, az_g 320 (by decide +kernel) (by decide +kernel)⟩, fun _ h => absurd h List.not_mem_nil, Or.inl ⟨by decide +kernel, rfl⟩, by decide +kernel, by decide +kernel⟩
  · obtain ⟨⟨ha, hb⟩, rfl⟩ := h4
    cases h2
    exact ⟨[(0, 10, 13, 13)], 0, 10, 17, 15, [], by decide +kernel, ⟨ha, hb, by decide⟩, ⟨by decide +kernel, az_g 321 (by decide +kernel) (by decide +kernel)⟩, List.forall_mem_cons.mpr ⟨⟨by decide, 1, az_g 320 (by decide +kernel) (by decide +kernel), by decide⟩, fun _ h => absurd h List.not_mem_nil⟩, Or.inl ⟨by decide +kernel, rfl⟩, by decide +kernel, by decide +kernel⟩
theorem az_hk168 : ∀ pc n i nx : Nat, az_hnd 168 pc n = some (i, nx) → az_hok 168 pc n i nx := by
  intro pc n i nx h
  unfold az_hnd at h
  obtain ⟨q, h1, h2⟩ := Option.map_eq_some_iff.mp h
  have h3 := List.mem_of_find?_eq_some h1
  have h4 := List.find?_some h1
  simp only [Bool.and_eq_true, beq_iff_eq, decide_eq_true_eq] at h4
  rw [show az_xt 168 = [(0, 10, 1, 4, 15)] by decide +kernel] at h3
  simp only [List.mem_cons, List.not_mem_nil, or_false] at h3
  rcases h3 with rfl
  · obtain ⟨⟨ha, hb⟩, rfl⟩ := h4
    cases h2
    exact ⟨[], 0, 10, 13, 13, [], by decide +kernel, ⟨ha, hb, by decide⟩, ⟨by decide +kernel, az_g 320 (by decide +kernel) (by decide +kernel)⟩, fun _ h => absurd h List.not_mem_nil, Or.inl ⟨by decide +kernel, rfl⟩, by decide +kernel, by decide +kernel⟩
theorem az_hk169 : ∀ pc n i nx : Nat, az_hnd 169 pc n = some (i, nx) → az_hok 169 pc n i nx := by
  intro pc n i nx h
  unfold az_hnd at h
  obtain ⟨q, h1, h2⟩ := Option.map_eq_some_iff.mp h
  have h3 := List.mem_of_find?_eq_some h1
  have h4 := List.find?_some h1
  simp only [Bool.and_eq_true, beq_iff_eq, decide_eq_true_eq] at h4
  rw [show az_xt 169 = [(0, 9, 1, 3, 13)] by decide +kernel] at h3
  simp only [List.mem_cons, List.not_mem_nil, or_false] at h3
  rcases h3 with rfl
  · obtain ⟨⟨ha, hb⟩, rfl⟩ := h4
    cases h2
    exact ⟨[], 0, 9, 12, 13, [], by decide +kernel, ⟨ha, hb, by decide⟩, ⟨by decide +kernel, az_g 320 (by decide +kernel) (by decide +kernel)⟩, fun _ h => absurd h List.not_mem_nil, Or.inr ⟨3, rfl, by decide +kernel, rfl⟩, by decide +kernel, by decide +kernel⟩
theorem az_hk170 : ∀ pc n i nx : Nat, az_hnd 170 pc n = some (i, nx) → az_hok 170 pc n i nx := by
  intro pc n i nx h
  unfold az_hnd at h
  obtain ⟨q, h1, h2⟩ := Option.map_eq_some_iff.mp h
  have h3 := List.mem_of_find?_eq_some h1
  have h4 := List.find?_some h1
  simp only [Bool.and_eq_true, beq_iff_eq, decide_eq_true_eq] at h4
  rw [show az_xt 170 = [(0, 9, 1, 3, 13)] by decide +kernel] at h3
  simp only [List.mem_cons, List.not_mem_nil, or_false] at h3
  rcases h3 with rfl
  · obtain ⟨⟨ha, hb⟩, rfl⟩ := h4
    cases h2
    exact ⟨[], 0, 9, 12, 13, [], by decide +kernel, ⟨ha, hb, by decide⟩, ⟨by decide +kernel, az_g 320 (by decide +kernel) (by decide +kernel)⟩, fun _ h => absurd h List.not_mem_nil, Or.inr ⟨3, rfl, by decide +kernel, rfl⟩, by decide +kernel, by decide +kernel⟩
theorem az_hks {k : Nat} (hk : k < 172) : ∀ pc n i nx : Nat, az_hnd k pc n = some (i, nx) → az_hok k pc n i nx := by
  by_cases h : az_xt k = []
  · intro pc n i nx h1
    unfold az_hnd at h1
    rw [h] at h1
    cases h1
  · match k, hk, h with
    | 0, _, h => exact absurd rfl h
    | 1, _, h => exact absurd rfl h
    | 2, _, h => exact absurd rfl h
    | 3, _, h => exact absurd rfl h
    | 4, _, h => exact absurd rfl h
    | 5, _, h => exact absurd rfl h
    | 6, _, h => exact absurd rfl h
    | 7, _, h => exact absurd rfl h
    | 8, _, h => exact absurd rfl h
    | 9, _, h => exact absurd rfl h
    | 10, _, h => exact absurd rfl h
    | 11, _, h => exact absurd rfl h
    | 12, _, h => exact absurd rfl h
    | 13, _, h => exact absurd rfl h
    | 14, _, h => exact absurd rfl h
    | 15, _, h => exact absurd rfl h
    | 16, _, h => exact absurd rfl h
    | 17, _, h => exact absurd rfl h
    | 18, _, h => exact absurd rfl h
    | 19, _, h => exact absurd rfl h
    | 20, _, h => exact absurd rfl h
    | 21, _, h => exact absurd rfl h
    | 22, _, h => exact absurd rfl h
    | 23, _, h => exact absurd rfl h
    | 24, _, h => exact absurd rfl h
    | 25, _, h => exact absurd rfl h
    | 26, _, h => exact absurd rfl h
    | 27, _, h => exact absurd rfl h
    | 28, _, h => exact absurd rfl h
    | 29, _, h => exact absurd rfl h
    | 30, _, h => exact absurd rfl h
    | 31, _, h => exact absurd rfl h
    | 32, _, h => exact absurd rfl h
    | 33, _, h => exact absurd rfl h
    | 34, _, h => exact absurd rfl h
    | 35, _, h => exact absurd rfl h
    | 36, _, h => exact absurd rfl h
    | 37, _, h => exact absurd rfl h
    | 38, _, h => exact absurd rfl h
    | 39, _, h => exact absurd rfl h
    | 40, _, h => exact absurd rfl h
    | 41, _, h => exact absurd rfl h
    | 42, _, h => exact absurd rfl h
    | 43, _, h => exact absurd rfl h
    | 44, _, h => exact absurd rfl h
    | 45, _, h => exact absurd rfl h
    | 46, _, h => exact absurd rfl h
    | 47, _, h => exact absurd rfl h
    | 48, _, h => exact absurd rfl h
    | 49, _, h => exact absurd rfl h
    | 50, _, h => exact absurd rfl h
    | 51, _, h => exact absurd rfl h
    | 52, _, h => exact absurd rfl h
    | 53, _, h => exact absurd rfl h
    | 54, _, h => exact absurd rfl h
    | 55, _, h => exact absurd rfl h
    | 56, _, h => exact absurd rfl h
    | 57, _, h => exact absurd rfl h
    | 58, _, h => exact absurd rfl h
    | 59, _, h => exact absurd rfl h
    | 60, _, h => exact absurd rfl h
    | 61, _, h => exact absurd rfl h
    | 62, _, h => exact absurd rfl h
    | 63, _, h => exact absurd rfl h
    | 64, _, h => exact absurd rfl h
    | 65, _, h => exact absurd rfl h
    | 66, _, h => exact absurd rfl h
    | 67, _, h => exact absurd rfl h
    | 68, _, h => exact absurd rfl h
    | 69, _, h => exact absurd rfl h
    | 70, _, h => exact absurd rfl h
    | 71, _, h => exact absurd rfl h
    | 72, _, h => exact absurd rfl h
    | 73, _, h => exact absurd rfl h
    | 74, _, h => exact absurd rfl h
    | 75, _, h => exact absurd rfl h
    | 76, _, h => exact absurd rfl h
    | 77, _, h => exact absurd rfl h
    | 78, _, h => exact absurd rfl h
    | 79, _, h => exact absurd rfl h
    | 80, _, h => exact absurd rfl h
    | 81, _, h => exact absurd rfl h
    | 82, _, h => exact absurd rfl h
    | 83, _, h => exact absurd rfl h
    | 84, _, h => exact absurd rfl h
    | 85, _, h => exact absurd rfl h
    | 86, _, h => exact absurd rfl h
    | 87, _, h => exact absurd rfl h
    | 88, _, h => exact absurd rfl h
    | 89, _, h => exact absurd rfl h
    | 90, _, h => exact absurd rfl h
    | 91, _, h => exact absurd rfl h
    | 92, _, h => exact absurd rfl h
    | 93, _, h => exact absurd rfl h
    | 94, _, h => exact absurd rfl h
    | 95, _, h => exact absurd rfl h
    | 96, _, h => exact absurd rfl h
    | 97, _, h => exact absurd rfl h
    | 98, _, h => exact absurd rfl h
    | 99, _, h => exact absurd rfl h
    | 100, _, h => exact absurd rfl h
    | 101, _, h => exact absurd rfl h
    | 102, _, h => exact absurd rfl h
    | 103, _, h => exact absurd rfl h
    | 104, _, h => exact absurd rfl h
    | 105, _, h => exact absurd rfl h
    | 106, _, h => exact absurd rfl h
    | 107, _, h => exact absurd rfl h
    | 108, _, h => exact absurd rfl h
    | 109, _, h => exact absurd rfl h
    | 110, _, h => exact absurd rfl h
    | 111, _, h => exact absurd rfl h
    | 112, _, h => exact absurd rfl h
    | 113, _, h => exact absurd rfl h
    | 114, _, h => exact absurd rfl h
    | 115, _, h => exact absurd rfl h
    | 116, _, h => exact absurd rfl h
    | 117, _, h => exact absurd rfl h
    | 118, _, h => exact absurd rfl h
    | 119, _, h => exact absurd rfl h
    | 120, _, h => exact absurd rfl h
    | 121, _, h => exact absurd rfl h
    | 122, _, h => exact absurd rfl h
    | 123, _, h => exact absurd rfl h
    | 124, _, h => exact absurd rfl h
    | 125, _, h => exact absurd rfl h
    | 126, _, h => exact absurd rfl h
    | 127, _, h => exact absurd rfl h
    | 128, _, h => exact absurd rfl h
    | 129, _, h => exact absurd rfl h
    | 130, _, h => exact absurd rfl h
    | 131, _, h => exact absurd rfl h
    | 132, _, h => exact absurd rfl h
    | 133, _, h => exact absurd rfl h
    | 134, _, h => exact absurd rfl h
    | 135, _, h => exact absurd rfl h
    | 136, _, h => exact absurd rfl h
    | 137, _, h => exact absurd rfl h
    | 138, _, h => exact absurd rfl h
    | 139, _, h => exact absurd rfl h
    | 140, _, h => exact absurd rfl h
    | 141, _, h => exact absurd rfl h
    | 142, _, h => exact absurd rfl h
    | 143, _, h => exact absurd rfl h
    | 144, _, _ => exact az_hk144
    | 145, _, _ => exact az_hk145
    | 146, _, _ => exact az_hk146
    | 147, _, _ => exact az_hk147
    | 148, _, _ => exact az_hk148
    | 149, _, _ => exact az_hk149
    | 150, _, _ => exact az_hk150
    | 151, _, _ => exact az_hk151
    | 152, _, _ => exact az_hk152
    | 153, _, _ => exact az_hk153
    | 154, _, _ => exact az_hk154
    | 155, _, _ => exact az_hk155
    | 156, _, _ => exact az_hk156
    | 157, _, _ => exact az_hk157
    | 158, _, _ => exact az_hk158
    | 159, _, _ => exact az_hk159
    | 160, _, _ => exact az_hk160
    | 161, _, _ => exact az_hk161
    | 162, _, _ => exact az_hk162
    | 163, _, _ => exact az_hk163
    | 164, _, _ => exact az_hk164
    | 165, _, _ => exact az_hk165
    | 166, _, _ => exact az_hk166
    | 167, _, _ => exact az_hk167
    | 168, _, _ => exact az_hk168
    | 169, _, _ => exact az_hk169
    | 170, _, _ => exact az_hk170
    | 171, _, h => exact absurd rfl h
    | k + 172, h, _ => omega
theorem az_hnc {n n2 : Nat} (h : (n, n2) ∈ az_nc) : True := trivial
