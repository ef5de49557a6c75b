set_option maxRecDepth 100000 in
theorem az_cwm95 : az_cw 95 ∈ az_gw := by
  have e : az_cw 95 = Jvm.Cond.code yL_act cL_act 10 (some .int) := by
    unfold az_cw
    rw [if_neg (by decide +kernel)]
    rfl
  rw [e]
  exact List.mem_filter.mpr ⟨List.mem_of_getElem? (i := 296) rfl, by decide +kernel⟩
theorem az_m95 : az_mok 95 := ⟨az_cwm95, az_g 22 (by decide +kernel) (by decide +kernel), by decide +kernel, ⟨by decide +kernel, by decide +kernel, by decide +kernel⟩, fun _ => ⟨az_g 295 (by decide +kernel) (by decide +kernel), by decide +kernel⟩, fun h => absurd h (by decide +kernel), fun h => absurd h (by decide +kernel), fun h => absurd h (by decide +kernel), by decide +kernel, by decide +kernel, fun _ => Or.inr trivial⟩
