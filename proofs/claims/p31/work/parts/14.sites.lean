def az_nms : List String := ["java/lang/RuntimeException", "java/lang/Exception"]
/-- a place that throws -/
def az_site (k pc n ik is ic : Nat) (text : String) (wd : Bool) : Prop :=
  az_own k = 6 ∧ Jvm.Cond.classLink RX6 ik (az_xn n) ∈ az_gw ∧ Jvm.Cond.initialized (az_xn n) ∈ az_gw ∧ (is, text) ∈ az_str ∧ (∀ w ∈ vx_atS RX6 ic (az_xn n) az_nms, w ∈ az_gw ∨ w ∈ az_ng) ∧
  (∀ w ∈ Jvm.Cond.classLink RX6 ik (az_xn n) :: Jvm.Cond.initialized (az_xn n) :: vx_atS RX6 ic (az_xn n) az_nms, vx_ot w = true) ∧ (Bundle.fit (az_xn n) = true ∧ ∀ z ∈ az_nms, Bundle.fit z = true) ∧
  (decode (az_code k) pc = .ok (.new ik, 3) ∧ decode (az_code k) (pc + 3) = .ok (.dup, 1)) ∧
  (if wd = true then decode (az_code k) (pc + 4) = .ok (.ldc_w is, 3) ∧ decode (az_code k) (pc + 7) = .ok (.invokespecial ic, 3) ∧ decode (az_code k) (pc + 10) = .ok (.athrow, 1)
    else decode (az_code k) (pc + 4) = .ok (.ldc is, 2) ∧ decode (az_code k) (pc + 6) = .ok (.invokespecial ic, 3) ∧ decode (az_code k) (pc + 9) = .ok (.athrow, 1)) ∧
  (az_hh k = [] ∧ 1 ≤ n ∧ n ≤ 3)
theorem az_ats {ic : Nat} {n : Nat} (h : ((vx_atS RX6 ic (az_xn n) az_nms).all fun w => (decide (w ∈ lw_tbl) && goodWord w) || decide (w ∈ az_ng)) = true) : ∀ w ∈ vx_atS RX6 ic (az_xn n) az_nms, w ∈ az_gw ∨ w ∈ az_ng := by
  intro w hw
  have h1 := List.all_eq_true.mp h w hw
  simp only [Bool.or_eq_true, Bool.and_eq_true, decide_eq_true_eq] at h1
  rcases h1 with h1 | h1
  · exact Or.inl (List.mem_filter.mpr h1)
  · exact Or.inr h1
theorem az_at_249 : ∀ w ∈ vx_atS RX6 249 (az_xn 1) az_nms, w ∈ az_gw ∨ w ∈ az_ng := az_ats (by decide +kernel)
theorem az_at_309 : ∀ w ∈ vx_atS RX6 309 (az_xn 2) az_nms, w ∈ az_gw ∨ w ∈ az_ng := az_ats (by decide +kernel)
theorem az_at_318 : ∀ w ∈ vx_atS RX6 318 (az_xn 3) az_nms, w ∈ az_gw ∨ w ∈ az_ng := az_ats (by decide +kernel)
theorem az_site0 : az_site 62 15 1 245 247 249 "no such place" false := ⟨by decide +kernel, az_g 317 (by decide +kernel) (by decide +kernel), az_g 33 (by decide +kernel) (by decide +kernel), by decide +kernel, az_at_249, by decide +kernel, ⟨by decide +kernel, by decide +kernel⟩, ⟨by decide +kernel, by decide +kernel⟩, by decide +kernel, ⟨by decide +kernel, by decide, by decide⟩⟩
theorem az_site1 : az_site 69 9 1 245 303 249 "there is none of that number" true := ⟨by decide +kernel, az_g 317 (by decide +kernel) (by decide +kernel), az_g 33 (by decide +kernel) (by decide +kernel), by decide +kernel, az_at_249, by decide +kernel, ⟨by decide +kernel, by decide +kernel⟩, ⟨by decide +kernel, by decide +kernel⟩, by decide +kernel, ⟨by decide +kernel, by decide, by decide⟩⟩
theorem az_site2 : az_site 70 10 2 305 307 309 "out of range" true := ⟨by decide +kernel, az_g 388 (by decide +kernel) (by decide +kernel), az_g 34 (by decide +kernel) (by decide +kernel), by decide +kernel, az_at_309, by decide +kernel, ⟨by decide +kernel, by decide +kernel⟩, ⟨by decide +kernel, by decide +kernel⟩, by decide +kernel, ⟨by decide +kernel, by decide, by decide⟩⟩
theorem az_site3 : az_site 71 10 2 305 310 309 "not a multiple" true := ⟨by decide +kernel, az_g 388 (by decide +kernel) (by decide +kernel), az_g 34 (by decide +kernel) (by decide +kernel), by decide +kernel, az_at_309, by decide +kernel, ⟨by decide +kernel, by decide +kernel⟩, ⟨by decide +kernel, by decide +kernel⟩, by decide +kernel, ⟨by decide +kernel, by decide, by decide⟩⟩
theorem az_site4 : az_site 72 5 2 305 312 309 "both are the same" true := ⟨by decide +kernel, az_g 388 (by decide +kernel) (by decide +kernel), az_g 34 (by decide +kernel) (by decide +kernel), by decide +kernel, az_at_309, by decide +kernel, ⟨by decide +kernel, by decide +kernel⟩, ⟨by decide +kernel, by decide +kernel⟩, by decide +kernel, ⟨by decide +kernel, by decide, by decide⟩⟩
theorem az_site5 : az_site 73 4 3 314 316 318 "not as things stand" true := ⟨by decide +kernel, az_g 419 (by decide +kernel) (by decide +kernel), az_g 35 (by decide +kernel) (by decide +kernel), by decide +kernel, az_at_318, by decide +kernel, ⟨by decide +kernel, by decide +kernel⟩, ⟨by decide +kernel, by decide +kernel⟩, by decide +kernel, ⟨by decide +kernel, by decide, by decide⟩⟩
theorem az_sites {k pc n : Nat} (h : az_thr k pc = some n) : ∃ ik is ic text wd, az_site k pc n ik is ic text wd := by
  unfold az_thr at h
  obtain ⟨q, h1, h2⟩ := Option.map_eq_some_iff.mp h
  have h3 := List.mem_of_find?_eq_some h1
  have h4 := List.find?_some h1
  simp only [Bool.and_eq_true, beq_iff_eq] at h4
  have h5 : q = (k, pc, n) := by rw [← h4.1, ← h4.2, ← h2]
  rw [h5] at h3
  simp only [az_thrs, List.mem_cons, Prod.mk.injEq, List.not_mem_nil, or_false] at h3
  rcases h3 with ⟨rfl, rfl, rfl⟩ | ⟨rfl, rfl, rfl⟩ | ⟨rfl, rfl, rfl⟩ | ⟨rfl, rfl, rfl⟩ | ⟨rfl, rfl, rfl⟩ | ⟨rfl, rfl, rfl⟩
  · exact ⟨_, _, _, _, _, az_site0⟩
  · exact ⟨_, _, _, _, _, az_site1⟩
  · exact ⟨_, _, _, _, _, az_site2⟩
  · exact ⟨_, _, _, _, _, az_site3⟩
  · exact ⟨_, _, _, _, _, az_site4⟩
  · exact ⟨_, _, _, _, _, az_site5⟩
/-- where a throw is caught -/
def az_hok (k pc n i nx : Nat) : Prop := ∃ (pre : List (Nat × Nat × Nat × Nat)) (a b h ct : Nat) (suf : List (Nat × Nat × Nat × Nat)), az_hh k = pre ++ (a, b, h, ct) :: suf ∧ (a ≤ pc ∧ pc < b ∧ ct ≠ 0) ∧ (az_own k = 8 ∧ Jvm.Cond.classLink RL ct (az_xn n) ∈ az_gw) ∧
  (∀ z ∈ pre, z.2.2.2 ≠ 0 ∧ ∃ n2, Jvm.Cond.classLink RL z.2.2.2 (az_xn n2) ∈ az_gw ∧ (n, n2) ∈ az_nc) ∧ ((decode (az_code k) h = .ok (.astore i, 2) ∧ nx = h + 2) ∨ ∃ j : Fin 4, j.val = i ∧ decode (az_code k) h = .ok (.astore_n j, 1) ∧ nx = h + 1) ∧ Jvm.Cond.castable (az_xn n) (az_xn n) ∈ az_ng ∧ i < az_ml k
theorem az_hk91 : ∀ pc n i nx : Nat, az_hnd 91 pc n = some (i, nx) → az_hok 91 pc n i nx := by
  intro pc n i nx h
  unfold az_hnd at h
  obtain ⟨q, h1, h2⟩ := Option.map_eq_some_iff.mp h
  have h3 := List.mem_of_find?_eq_some h1
  have h4 := List.find?_some h1
  simp only [Bool.and_eq_true, beq_iff_eq, decide_eq_true_eq] at h4
  rw [show az_xt 91 = [(0, 160, 1, 6, 163), (0, 160, 2, 6, 168), (0, 160, 3, 6, 173)] by decide +kernel] at h3
  simp only [List.mem_cons, List.not_mem_nil, or_false] at h3
  rcases h3 with rfl | rfl | rfl
  · obtain ⟨⟨ha, hb⟩, rfl⟩ := h4
    cases h2
    exact ⟨[], 0, 160, 161, 49, [(0, 160, 166, 52), (0, 160, 171, 54)], by decide +kernel, ⟨ha, hb, by decide⟩, ⟨by decide +kernel, az_g 304 (by decide +kernel) (by decide +kernel)⟩, fun _ h => absurd h List.not_mem_nil, Or.inl ⟨by decide +kernel, rfl⟩, by decide +kernel, by decide +kernel⟩
  · obtain ⟨⟨ha, hb⟩, rfl⟩ := h4
    cases h2
    exact ⟨[(0, 160, 161, 49)], 0, 160, 166, 52, [(0, 160, 171, 54)], by decide +kernel, ⟨ha, hb, by decide⟩, ⟨by decide +kernel, az_g 305 (by decide +kernel) (by decide +kernel)⟩, List.forall_mem_cons.mpr ⟨⟨by decide, 1, az_g 304 (by decide +kernel) (by decide +kernel), by decide⟩, fun _ h => absurd h List.not_mem_nil⟩, Or.inl ⟨by decide +kernel, rfl⟩, by decide +kernel, by decide +kernel⟩
  · obtain ⟨⟨ha, hb⟩, rfl⟩ := h4
    cases h2
    exact ⟨[(0, 160, 161, 49), (0, 160, 166, 52)], 0, 160, 171, 54, [], by decide +kernel, ⟨ha, hb, by decide⟩, ⟨by decide +kernel, az_g 306 (by decide +kernel) (by decide +kernel)⟩, List.forall_mem_cons.mpr ⟨⟨by decide, 1, az_g 304 (by decide +kernel) (by decide +kernel), by decide⟩, List.forall_mem_cons.mpr ⟨⟨by decide, 2, az_g 305 (by decide +kernel) (by decide +kernel), by decide⟩, fun _ h => absurd h List.not_mem_nil⟩⟩, Or.inl ⟨by decide +kernel, rfl⟩, by decide +kernel, by decide +kernel⟩
theorem az_hks {k : Nat} (hk : k < 100) : ∀ pc n i nx : Nat, az_hnd k pc n = some (i, nx) → az_hok k pc n i nx := by
  by_cases h : az_xt k = []
  · intro pc n i nx h1
    unfold az_hnd at h1
    rw [h] at h1
    cases h1
  · match k, hk, h with
    | 0, _, h => exact absurd rfl h
    | 1, _, h => exact absurd rfl h
    | 2, _, h => exact absurd rfl h
    | 3, _, h => exact absurd rfl h
    | 4, _, h => exact absurd rfl h
    | 5, _, h => exact absurd rfl h
    | 6, _, h => exact absurd rfl h
    | 7, _, h => exact absurd rfl h
    | 8, _, h => exact absurd rfl h
    | 9, _, h => exact absurd rfl h
    | 10, _, h => exact absurd rfl h
    | 11, _, h => exact absurd rfl h
    | 12, _, h => exact absurd rfl h
    | 13, _, h => exact absurd rfl h
    | 14, _, h => exact absurd rfl h
    | 15, _, h => exact absurd rfl h
    | 16, _, h => exact absurd rfl h
    | 17, _, h => exact absurd rfl h
    | 18, _, h => exact absurd rfl h
    | 19, _, h => exact absurd rfl h
    | 20, _, h => exact absurd rfl h
    | 21, _, h => exact absurd rfl h
    | 22, _, h => exact absurd rfl h
    | 23, _, h => exact absurd rfl h
    | 24, _, h => exact absurd rfl h
    | 25, _, h => exact absurd rfl h
    | 26, _, h => exact absurd rfl h
    | 27, _, h => exact absurd rfl h
    | 28, _, h => exact absurd rfl h
    | 29, _, h => exact absurd rfl h
    | 30, _, h => exact absurd rfl h
    | 31, _, h => exact absurd rfl h
    | 32, _, h => exact absurd rfl h
    | 33, _, h => exact absurd rfl h
    | 34, _, h => exact absurd rfl h
    | 35, _, h => exact absurd rfl h
    | 36, _, h => exact absurd rfl h
    | 37, _, h => exact absurd rfl h
    | 38, _, h => exact absurd rfl h
    | 39, _, h => exact absurd rfl h
    | 40, _, h => exact absurd rfl h
    | 41, _, h => exact absurd rfl h
    | 42, _, h => exact absurd rfl h
    | 43, _, h => exact absurd rfl h
    | 44, _, h => exact absurd rfl h
    | 45, _, h => exact absurd rfl h
    | 46, _, h => exact absurd rfl h
    | 47, _, h => exact absurd rfl h
    | 48, _, h => exact absurd rfl h
    | 49, _, h => exact absurd rfl h
    | 50, _, h => exact absurd rfl h
    | 51, _, h => exact absurd rfl h
    | 52, _, h => exact absurd rfl h
    | 53, _, h => exact absurd rfl h
    | 54, _, h => exact absurd rfl h
    | 55, _, h => exact absurd rfl h
    | 56, _, h => exact absurd rfl h
    | 57, _, h => exact absurd rfl h
    | 58, _, h => exact absurd rfl h
    | 59, _, h => exact absurd rfl h
    | 60, _, h => exact absurd rfl h
    | 61, _, h => exact absurd rfl h
    | 62, _, h => exact absurd rfl h
    | 63, _, h => exact absurd rfl h
    | 64, _, h => exact absurd rfl h
    | 65, _, h => exact absurd rfl h
    | 66, _, h => exact absurd rfl h
    | 67, _, h => exact absurd rfl h
    | 68, _, h => exact absurd rfl h
    | 69, _, h => exact absurd rfl h
    | 70, _, h => exact absurd rfl h
    | 71, _, h => exact absurd rfl h
    | 72, _, h => exact absurd rfl h
    | 73, _, h => exact absurd rfl h
    | 74, _, h => exact absurd rfl h
    | 75, _, h => exact absurd rfl h
    | 76, _, h => exact absurd rfl h
    | 77, _, h => exact absurd rfl h
    | 78, _, h => exact absurd rfl h
    | 79, _, h => exact absurd rfl h
    | 80, _, h => exact absurd rfl h
    | 81, _, h => exact absurd rfl h
    | 82, _, h => exact absurd rfl h
    | 83, _, h => exact absurd rfl h
    | 84, _, h => exact absurd rfl h
    | 85, _, h => exact absurd rfl h
    | 86, _, h => exact absurd rfl h
    | 87, _, h => exact absurd rfl h
    | 88, _, h => exact absurd rfl h
    | 89, _, h => exact absurd rfl h
    | 90, _, h => exact absurd rfl h
    | 91, _, _ => exact az_hk91
    | 92, _, h => exact absurd rfl h
    | 93, _, h => exact absurd rfl h
    | 94, _, h => exact absurd rfl h
    | 95, _, h => exact absurd rfl h
    | 96, _, h => exact absurd rfl h
    | 97, _, h => exact absurd rfl h
    | 98, _, h => exact absurd rfl h
    | 99, _, h => exact absurd rfl h
    | k + 100, h, _ => omega
theorem az_hnc {n n2 : Nat} (h : (n, n2) ∈ az_nc) : True := trivial
