/-! any step of the small machine that is no call and no end -/
theorem az_stp_len {xs : az_X} {k pc nx : Nat} {i : Instr} {L : az_Ls} {st : List Value} {G : az_G} {q : az_Nx} (hs : az_stp xs k i pc nx L st G = some q) : q.2.1.length = L.length := by
  unfold az_stp at hs
  split at hs <;> (try unfold az_b2 at hs) <;> (try unfold az_dv at hs) <;> (try unfold az_ild at hs) <;> (try unfold az_ald at hs) <;> (try unfold az_ist at hs) <;> (try unfold az_ast at hs) <;> (try unfold az_inc at hs) <;> (try unfold az_if1 at hs) <;> (try unfold az_if2 at hs) <;> (try unfold az_tsw at hs) <;> (try unfold az_gf at hs) <;> (try unfold az_pf at hs) <;> (try unfold az_ial at hs) <;> (try unfold az_aal at hs) <;> (try unfold az_iast at hs) <;> (try unfold az_bast at hs) <;> (try unfold az_len at hs) <;> (try unfold az_new at hs) <;> (try unfold az_nwa at hs) <;> (try unfold az_nwm at hs) <;> (try unfold az_mth at hs) <;> (try unfold az_oin at hs) <;> (try unfold az_br at hs) <;> (try (simp only [Option.map_eq_some_iff] at hs; obtain ⟨w9, -, hs⟩ := hs)) <;> (repeat' split at hs) <;> first | (cases hs; done) | (cases hs; rfl) | (cases hs; exact List.length_set ..) | (subst hs; rfl)
section
variable {p : Program} {l : Launch} {e : Env} {R : Room} {s : State} {m : MethodId} {args : Array Value} {below : List Frame} {meth : Method} {c : Code} {Q : State → Prop}
variable {xs : az_X} {k pc : Nat} {D : va_G} {cy : Nat → ClassId} {A : Nat → Prop} {ad0 : Nat → Nat} {n0 c0 s0 : Nat} {L : az_Ls} {st : List Value} {G : az_G} {q : az_Nx}
theorem az_stp_ok {i : Instr} {len : Nat} (hRm : 1 ≤ R.frames ∧ 21 ≤ R.locals) (hRc : ∀ cells slots : Nat, cells + c0 = G.2.2.2.1 → slots + s0 = G.2.2.2.2 → cells ≤ R.cells ∧ slots ≤ R.slots) (hK : az_K p s m args meth c xs k D cy A ad0) (hlL : L.length = az_ml k) (hd : decode (az_code k) pc = .ok (i, len)) (hil : az_il i len = true) (hs : az_stp xs k i pc (pc + len) L st G = some q)
    (hB : q.2.2.2.2.2.2.1 ≤ c0 + R.cells ∧ q.2.2.2.2.2.2.2 ≤ s0 + R.slots) (kk : az_kk p l e R s m args below meth c Q D cy A ad0 n0 c0 s0 q) : az_kk p l e R s m args below meth c Q D cy A ad0 n0 c0 s0 (pc, L, st, G) := by
  have hx := hK.1
  have hb := hK.2.1
  have hown := hK.2.2.1
  have hts := hK.2.2.2.2.1
  unfold az_stp at hs
  split at hs
  · obtain rfl : len = 1 := by simpa [az_il] using hil
    cases hs
    exact az_o_pi (fun H locs cells slots ls rest w => lv_iconst hx hb hd rfl w) kk
  · obtain rfl : len = 2 := by simpa [az_il] using hil
    cases hs
    exact az_o_pi (fun H locs cells slots ls rest w => lv_bipush hx hb hd rfl w) kk
  · obtain rfl : len = 3 := by simpa [az_il] using hil
    cases hs
    exact az_o_pi (fun H locs cells slots ls rest w => lv_sipush hx hb hd rfl w) kk
  · obtain rfl : len = 2 := by simpa [az_il] using hil
    obtain ⟨v, hv, rfl⟩ := Option.map_eq_some_iff.mp hs
    exact az_o_pi (fun H locs cells slots ls rest w => lv_ldc hx hb hown (hts _ (az_kcm hv)) hd w) kk
  · obtain rfl : len = 3 := by simpa [az_il] using hil
    obtain ⟨v, hv, rfl⟩ := Option.map_eq_some_iff.mp hs
    exact az_o_pi (fun H locs cells slots ls rest w => lv_ldcw hx hb hown (hts _ (az_kcm hv)) hd w) kk
  · obtain rfl : len = 1 := by simpa [az_il] using hil
    cases hs
    exact az_o_pl (fun H locs cells slots ls rest w => lv_lconst hx hb hd rfl w) kk
  · obtain rfl : len = 2 := by simpa [az_il] using hil
    exact az_o_ild hs (fun H locs cells slots ls x rest hl w => lv_iload hx hb hd hl w) kk
  · obtain rfl : len = 1 := by simpa [az_il] using hil
    exact az_o_ild hs (fun H locs cells slots ls x rest hl w => lv_iload_n hx hb hd rfl hl w) kk
  · obtain rfl : len = 2 := by simpa [az_il] using hil
    exact az_o_ald hs (fun H locs cells slots ls x rest hl w => lv_aload hx hb hd hl w) kk
  · obtain rfl : len = 1 := by simpa [az_il] using hil
    exact az_o_ald hs (fun H locs cells slots ls x rest hl w => lv_aload_n hx hb hd rfl hl w) kk
  · obtain rfl : len = 2 := by simpa [az_il] using hil
    exact az_o_ist hs (fun H locs cells slots ls x rest nL lv lv2 h hn hl w => lv_istore hx hb hd h hn hl w) kk
  · obtain rfl : len = 1 := by simpa [az_il] using hil
    exact az_o_ist hs (fun H locs cells slots ls x rest nL lv lv2 h hn hl w => lv_istore_n hx hb hd rfl h hn hl w) kk
  · obtain rfl : len = 2 := by simpa [az_il] using hil
    exact az_o_ast hs (fun H locs cells slots ls x rest nL lv lv2 h hn hl w => lv_astore hx hb hd h hn hl w) kk
  · obtain rfl : len = 1 := by simpa [az_il] using hil
    exact az_o_ast hs (fun H locs cells slots ls x rest nL lv lv2 h hn hl w => lv_astore_n hx hb hd rfl h hn hl w) kk
  · obtain rfl : len = 3 := by simpa [az_il] using hil
    exact az_o_inc hs (fun H locs cells slots ls x rest nL j lv lv2 h hj hn hl w => lv_iinc hx hb hd h hj rfl hn hl w) kk
  · obtain rfl : len = 1 := by simpa [az_il] using hil
    exact az_o_b2 hs (fun H locs cells slots ls x y rest w => lv_iadd hx hb hd w) kk
  · obtain rfl : len = 1 := by simpa [az_il] using hil
    exact az_o_b2 hs (fun H locs cells slots ls x y rest w => lv_isub hx hb hd w) kk
  · obtain rfl : len = 1 := by simpa [az_il] using hil
    exact az_o_b2 hs (fun H locs cells slots ls x y rest w => lv_imul hx hb hd w) kk
  · obtain rfl : len = 1 := by simpa [az_il] using hil
    exact az_o_b2 hs (fun H locs cells slots ls x y rest w => lv_iand hx hb hd w) kk
  · obtain rfl : len = 1 := by simpa [az_il] using hil
    exact az_o_b2 hs (fun H locs cells slots ls x y rest w => lv_ior hx hb hd w) kk
  · obtain rfl : len = 1 := by simpa [az_il] using hil
    exact az_o_b2 hs (fun H locs cells slots ls x y rest w => lv_ixor hx hb hd w) kk
  · obtain rfl : len = 1 := by simpa [az_il] using hil
    exact az_o_b2 hs (fun H locs cells slots ls x y rest w => lv_ishl hx hb hd w) kk
  · obtain rfl : len = 1 := by simpa [az_il] using hil
    exact az_o_b2 hs (fun H locs cells slots ls x y rest w => lv_ishr hx hb hd w) kk
  · obtain rfl : len = 1 := by simpa [az_il] using hil
    exact az_o_b2 hs (fun H locs cells slots ls x y rest w => lv_iushr hx hb hd rfl w) kk
  · obtain rfl : len = 1 := by simpa [az_il] using hil
    exact az_o_dv hs (fun H locs cells slots ls x y rest h0 w => lv_idiv hx hb hd h0 w) kk
  · obtain rfl : len = 1 := by simpa [az_il] using hil
    exact az_o_dv hs (fun H locs cells slots ls x y rest h0 w => lv_irem hx hb hd h0 w) kk
  · obtain rfl : len = 1 := by simpa [az_il] using hil
    split at hs
    · cases hs
      intro ad ls H locs cells slots hR
      exact lv_ineg hx hb hd (kk ad ls H locs cells slots (hR.st (az_cn1 trivial (az_tl1 hR.1.2))))
    · cases hs
  · obtain rfl : len = 1 := by simpa [az_il] using hil
    split at hs
    · cases hs
      intro ad ls H locs cells slots hR
      exact lv_i2l hx hb hd rfl (kk ad ls H locs cells slots (hR.st (az_cn1 trivial (az_tl1 hR.1.2))))
    · cases hs
  · obtain rfl : len = 1 := by simpa [az_il] using hil
    split at hs
    · cases hs
      intro ad ls H locs cells slots hR
      exact W.lcmp hx hb hd (kk ad ls H locs cells slots (hR.st (az_cn1 trivial (az_tl1 (az_tl1 hR.1.2)))))
    · cases hs
  · obtain rfl : len = 3 := by simpa [az_il] using hil
    exact az_o_if1 hs (fun H locs cells slots ls x rest tgt ht w1 w2 => lv_if_eq hx hb hd ht (fun h => w1 (decide_eq_true h)) (fun h => w2 (decide_eq_false h))) kk
  · obtain rfl : len = 3 := by simpa [az_il] using hil
    exact az_o_if1 hs (fun H locs cells slots ls x rest tgt ht w1 w2 => lv_if_ne hx hb hd ht (fun h => w1 (decide_eq_true h)) (fun h => w2 (decide_eq_false (fun q => q h)))) kk
  · obtain rfl : len = 3 := by simpa [az_il] using hil
    exact az_o_if1 hs (fun H locs cells slots ls x rest tgt ht w1 w2 => lv_if_lt hx hb hd ht (fun h => w1 (decide_eq_true h)) (fun h => w2 (decide_eq_false h))) kk
  · obtain rfl : len = 3 := by simpa [az_il] using hil
    exact az_o_if1 hs (fun H locs cells slots ls x rest tgt ht w1 w2 => lv_if_ge hx hb hd ht (fun h => w1 (decide_eq_true h)) (fun h => w2 (decide_eq_false h))) kk
  · obtain rfl : len = 3 := by simpa [az_il] using hil
    exact az_o_if1 hs (fun H locs cells slots ls x rest tgt ht w1 w2 => lv_if_gt hx hb hd ht (fun h => w1 (decide_eq_true h)) (fun h => w2 (decide_eq_false h))) kk
  · obtain rfl : len = 3 := by simpa [az_il] using hil
    exact az_o_if1 hs (fun H locs cells slots ls x rest tgt ht w1 w2 => lv_if_le hx hb hd ht (fun h => w1 (decide_eq_true h)) (fun h => w2 (decide_eq_false h))) kk
  · obtain rfl : len = 3 := by simpa [az_il] using hil
    exact az_o_if2 hs (fun H locs cells slots ls x y rest tgt ht w1 w2 => lv_icmp_eq hx hb hd ht (fun h => w1 (decide_eq_true h)) (fun h => w2 (decide_eq_false h))) kk
  · obtain rfl : len = 3 := by simpa [az_il] using hil
    exact az_o_if2 hs (fun H locs cells slots ls x y rest tgt ht w1 w2 => lv_icmp_ne hx hb hd ht (fun h => w1 (decide_eq_true h)) (fun h => w2 (decide_eq_false (fun q => q h)))) kk
  · obtain rfl : len = 3 := by simpa [az_il] using hil
    exact az_o_if2 hs (fun H locs cells slots ls x y rest tgt ht w1 w2 => lv_icmp_lt hx hb hd ht (fun h => w1 (decide_eq_true h)) (fun h => w2 (decide_eq_false h))) kk
  · obtain rfl : len = 3 := by simpa [az_il] using hil
    exact az_o_if2 hs (fun H locs cells slots ls x y rest tgt ht w1 w2 => lv_icmp_ge hx hb hd ht (fun h => w1 (decide_eq_true h)) (fun h => w2 (decide_eq_false h))) kk
  · obtain rfl : len = 3 := by simpa [az_il] using hil
    exact az_o_if2 hs (fun H locs cells slots ls x y rest tgt ht w1 w2 => lv_icmp_gt hx hb hd ht (fun h => w1 (decide_eq_true h)) (fun h => w2 (decide_eq_false h))) kk
  · obtain rfl : len = 3 := by simpa [az_il] using hil
    exact az_o_if2 hs (fun H locs cells slots ls x y rest tgt ht w1 w2 => lv_icmp_le hx hb hd ht (fun h => w1 (decide_eq_true h)) (fun h => w2 (decide_eq_false h))) kk
  · obtain rfl : len = 3 := by simpa [az_il] using hil
    intro ad ls H locs cells slots hR
    exact az_o_br hs hR (fun tgt ht w1 _ => lv_goto hx hb hd ht (w1 rfl)) kk
  · exact az_o_tsw hK hd hs kk
  · obtain rfl : len = 1 := by simpa [az_il] using hil
    split at hs
    · split at hs
      · rename_i hc1
        cases hs
        intro ad ls H locs cells slots hR
        exact lv_dup hx hb hd (by rw [az_cat1]; exact hc1) (kk ad ls H locs cells slots (hR.st (az_cn1 (hR.1.2 _ List.mem_cons_self) hR.1.2)))
      · cases hs
    · cases hs
  · obtain rfl : len = 1 := by simpa [az_il] using hil
    split at hs
    · split at hs
      · rename_i hc1
        cases hs
        intro ad ls H locs cells slots hR
        exact lv_dup2_11 hx hb hd (by rw [az_cat1]; exact hc1.1) (by rw [az_cat1]; exact hc1.2) (kk ad ls H locs cells slots (hR.st (az_cn1 (hR.1.2 _ List.mem_cons_self) (az_cn1 (hR.1.2 _ (List.mem_cons_of_mem _ List.mem_cons_self)) hR.1.2))))
      · cases hs
    · cases hs
  · obtain rfl : len = 3 := by simpa [az_il] using hil
    exact az_o_gf hK hd hs kk
  · obtain rfl : len = 3 := by simpa [az_il] using hil
    exact az_o_pf hK hd hs kk
  · obtain rfl : len = 1 := by simpa [az_il] using hil
    exact az_o_ial hK hd hs kk
  · obtain rfl : len = 1 := by simpa [az_il] using hil
    exact az_o_bal hK hd hs kk
  · obtain rfl : len = 1 := by simpa [az_il] using hil
    exact az_o_aal hK hd hs kk
  · obtain rfl : len = 1 := by simpa [az_il] using hil
    exact az_o_iast hK hd hs kk
  · obtain rfl : len = 1 := by simpa [az_il] using hil
    exact az_o_bast hK hd hs kk
  · obtain rfl : len = 1 := by simpa [az_il] using hil
    exact az_o_len hK hd hs kk
  · obtain rfl : len = 3 := by simpa [az_il] using hil
    exact az_o_new hK hd hs hB kk
  · obtain rfl : len = 2 := by simpa [az_il] using hil
    exact az_o_nwa (ty := .int) (f0 := fun N => (N, .inl fun _ => 0)) hK hd hs hB rfl (fun C h => by cases h) 0 rfl az_ac_int (fun N cA => rfl) (by decide) (fun ad I J n N => by unfold az_E; rw [az_clr_ge (Nat.le_refl _)]; rfl) kk
  · obtain rfl : len = 2 := by simpa [az_il] using hil
    exact az_o_nwa (ty := .boolean) (f0 := fun N => (N, .inl fun _ => 0)) hK hd hs hB rfl (fun C h => by cases h) 1 rfl az_ac_boolean (fun N cA => rfl) (by decide) (fun ad I J n N => by unfold az_E; rw [az_clr_ge (Nat.le_refl _)]; rfl) kk
  · obtain rfl : len = 4 := by simpa [az_il] using hil
    exact az_o_nwm hK hd hs hB kk
  · obtain rfl : len = 3 := by simpa [az_il] using hil
    exact az_o_mth hRm hRc hK hlL hd hs kk
  · obtain rfl : len = 3 := by simpa [az_il] using hil
    exact az_o_oin hRm hK hlL hd hs kk
  · cases hs
end
