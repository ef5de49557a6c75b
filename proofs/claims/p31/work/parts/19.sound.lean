/-! SOUNDNESS: a whole run -/
theorem az_cal_of {k : Nat} {i : Instr} {st : List Value} {S : List az_Shp} {r : Nat × List Value × List Value} (h : az_cal k i st S = some r) :
    ∃ kd x, ((kd = 0 ∧ i = .invokevirtual x) ∨ (kd = 1 ∧ i = .invokestatic x) ∨ (kd = 2 ∧ i = .invokespecial x)) ∧ az_cl1 kd (az_own k) x st S = some r := by
  unfold az_cal at h
  split at h
  · exact ⟨0, _, Or.inl ⟨rfl, rfl⟩, h⟩
  · exact ⟨1, _, Or.inr (Or.inl ⟨rfl, rfl⟩), h⟩
  · exact ⟨2, _, Or.inr (Or.inr ⟨rfl, rfl⟩), h⟩
  · cases h
theorem az_QcF {D : va_G} {cy : Nat → ClassId} {A : Nat → Prop} {ad : Nat → Nat} {n : Nat} {o : az_O} {a : Array Value} {st t : State} {oc : Outcome} (h : az_Qc D cy A ad n o a st oc t) : va_F A st t := by
  obtain ⟨-, ad', -, -, -, h⟩ := h
  exact h
theorem az_XcF {D : va_G} {cy : Nat → ClassId} {A : Nat → Prop} {ad : Nat → Nat} {n : Nat} {o : az_O} {z : String} {st t : State} (h : az_Xc D cy A ad n o z st t) : va_F A st t := by
  obtain ⟨-, -, ad', -, h⟩ := h
  exact h
theorem az_snd {xs : az_X} {l : Launch} (hlt : l.stackTraces = false) : ∀ f : Nat, az_say xs l f := by
  intro f
  induction f with
  | zero => intro d k pc L st G o h; cases h
  | succ f ih =>
    intro d k pc L st G o h p e R s m args below meth c Q D cy A ad0 n0 c0 s0 hRm hK hsf hlocks htab hL hk hB hE ad ls H locs cells slots hR
    unfold az_run at h
    split at h
    · rename_i i len hd
      split at h
      · rename_i hil
        split at h
        · rename_i o9 h9
          cases h
          unfold az_end at h9
          split at h9
          · split at h9
            · split at h9
              · rename_i hrt
                cases h9
                obtain rfl : len = 1 := by simpa [az_il] using hil
                exact hE.1 pc ad L ls _ H locs cells slots rfl rfl hd hrt hR
              · cases h9
            · cases h9
          · split at h9
            · split at h9
              · rename_i hrt
                cases h9
                obtain rfl : len = 1 := by simpa [az_il] using hil
                exact hE.2.1 pc ad L ls H locs cells slots rfl rfl hd hrt hR
              · cases h9
            · cases h9
          · split at h9
            · obtain ⟨n, hn, rfl⟩ := Option.map_eq_some_iff.mp h9
              exact hE.2.2.1 pc n ad L ls G H locs cells slots hL hn rfl hR
            · cases h9
          · cases h9
        · split at h
          · rename_i mm as rest hcal
            split at h
            · cases h
            · rename_i d
              split at h
              · cases h
              · rename_i o1 h1
                obtain ⟨⟨hLr, hst⟩, hwf, hP, hD, hS, hag, hn0, hn1, hn2, hn3⟩ := id hR
                have hn1 : cells + c0 = G.2.2.2.1 := hn1
                have hn2 : slots + s0 = G.2.2.2.2 := hn2
                have hm1 := az_run_mono _ _ _ _ _ _ _ _ h1
                have hB1 : o1.2.2.2.2.2.1 ≤ o.2.2.2.2.2.1 ∧ o1.2.2.2.2.2.2 ≤ o.2.2.2.2.2.2 := by
                  split at h
                  · exact az_run_mono _ _ _ _ _ _ _ _ h
                  · split at h
                    · exact az_run_mono _ _ _ _ _ _ _ _ h
                    · split at h
                      · cases h
                        exact ⟨Nat.le_refl _, Nat.le_refl _⟩
                      · cases h
                have hcc : cells + (o1.2.2.2.2.2.1 - G.2.2.2.1) + c0 = o1.2.2.2.2.2.1 := by omega
                have hss : slots + (o1.2.2.2.2.2.2 - G.2.2.2.2) + s0 = o1.2.2.2.2.2.2 := by omega
                obtain ⟨kd, x, hi, hcl1⟩ := az_cal_of hcal
                obtain rfl : len = 3 := by
                  rcases hi with ⟨-, rfl⟩ | ⟨-, rfl⟩ | ⟨-, rfl⟩ <;> simpa [az_il] using hil
                obtain ⟨⟨a9, hrun⟩, hrest⟩ := az_call_run (p := p) (e := e) (R := R) (below := below) (meth := meth) (L := L) (c0 := c0) (s0 := s0) hlt ih hi hd hcl1 h1 ⟨by omega, by omega⟩ hK hsf hL hR ⟨by omega, by omega⟩
                have hrok : ∀ v ∈ rest, az_ok G.1.length v := fun v hv => hst v (hrest v hv)
                refine az_callK hrun hS (fun _ _ _ hq => az_QcF hq) (fun _ _ _ hq => az_XcF hq) (fun v st₀ t H1 locs1 ht hvm hQ hS1 => ?_) (fun z ce q9 st₀ t H1 locs1 ht hvm hX hS1 hce hcv hcl => ?_)
                · obtain ⟨h0, ad', hv, hvok, ⟨hag', hwf', hP', hD', hn', hn3'⟩, -⟩ := hQ
                  rw [if_pos h0] at h
                  cases hv
                  rw [ht] at hP'
                  have hres := ih _ _ _ _ _ _ _ h p e R s m args below meth c Q D cy A ad0 n0 c0 s0 hRm hK hsf hlocks htab hL hk hB hE ad' ls H1 locs1 (cells + (o1.2.2.2.2.2.1 - G.2.2.2.1)) (slots + (o1.2.2.2.2.2.2 - G.2.2.2.2))
                    ⟨⟨az_Lr_ad hn' hag'.1 hag'.2 hLr, fun w hw => ?_⟩, hwf', hP', hD', hS1, ⟨fun j hj => (hag'.1 j (Nat.lt_of_lt_of_le hj hn0)).trans (hag.1 j hj), hag'.2.trans hag.2⟩, Nat.le_trans hn0 hn', hcc, hss, hn3'⟩
                  · have e1 : (o1.2.1.map (az_c ad')).toList ++ rest.map (az_c ad) = (o1.2.1.toList ++ rest).map (az_c ad') := by
                      rw [List.map_append, az_map_ad hag'.1 hag'.2 hrok]
                      congr 1
                      cases o1.2.1 <;> rfl
                    rw [e1]
                    exact hres
                  · rcases List.mem_append.mp hw with q | q
                    · exact hvok w (Option.mem_toList.mp q)
                    · exact az_ok_mono hn' (hrok w q)
                · obtain ⟨hE13, rfl, ad', ⟨hag', hwf', hP', hD', hn', hn3'⟩, -⟩ := hX
                  rw [if_neg (by omega)] at h
                  rw [ht] at hP'
                  have hLr' := az_Lr_ad hn' hag'.1 hag'.2 hLr
                  have hag2 : az_ag ad0 n0 ad' := ⟨fun j hj => (hag'.1 j (Nat.lt_of_lt_of_le hj hn0)).trans (hag.1 j hj), hag'.2.trans hag.2⟩
                  split at h
                  · rename_i n nx hnd
                    obtain ⟨pre, a, b, hp, ct, suf, hsp, ⟨ha, hb2, hct⟩, ⟨ho8, hlk⟩, hpre, hdec, hcast, hnl⟩ := az_hks hk _ _ _ _ hnd
                    have hne : k ≠ az_main := fun q => by rw [q] at hnd; unfold az_hnd at hnd; rw [show az_xt az_main = [] by decide +kernel] at hnd; cases hnd
                    have hx := hK.1
                    have hb := hK.2.1
                    have hts := hK.2.2.2.2.1
                    have hown : s.vm.findClass RL = some m.cls := by
                      have h9 := hK.2.2.1
                      rw [ho8] at h9
                      exact h9
                    have hnext : ∀ ls' : Array Slot, az_Lr ad' o1.2.2.1.length (L.set n none) ls' → W p l e R s m args below meth c H1 locs1 (cells + (o1.2.2.2.2.2.1 - G.2.2.2.1)) (slots + (o1.2.2.2.2.2.2 - G.2.2.2.2)) Q (F0 m nx ls' []) := fun ls' hl' =>
                      ih _ _ _ _ _ _ _ h p e R s m args below meth c Q D cy A ad0 n0 c0 s0 hRm hK hsf hlocks htab (by rw [List.length_set]; exact hL) hk hB hE ad' ls' H1 locs1 (cells + (o1.2.2.2.2.2.1 - G.2.2.2.1)) (slots + (o1.2.2.2.2.2.2 - G.2.2.2.2))
                        ⟨⟨hl', fun w hw => by cases hw⟩, hwf', hP', hD', hS1, hag2, Nat.le_trans hn0 hn', hcc, hss, hn3'⟩
                    refine vx_catch (own := RL) (name := az_xn o1.1) hown (tableOf pre) ⟨a, b, hp, ct⟩ (tableOf suf) (by rw [htab hne, hsp]; simp [tableOf]) (fun z hz => ?_) (by simp [covers, ha, hb2]) hct (hts _ hlk) (va_Nw.use (az_ngo _ hcast) (hsf.1 _ hcast)) hce hcv hcl ?_
                    · obtain ⟨z9, hz1, rfl⟩ := List.mem_map.mp hz
                      obtain ⟨g1, n2, g2, g3⟩ := hpre z9 hz1
                      exact Or.inr ⟨g1, az_xn n2, hts _ g2, hsf.2.2.2.1 _ g3⟩
                    · rcases hdec with ⟨d2, rfl⟩ | ⟨j, hj, d2, rfl⟩
                      · exact lv_astore hx hb d2 (az_pr_has hLr') (by rw [hL]; exact hnl) rfl (fun ls' hl' => hnext ls' (az_Lr_unset hLr' hl'))
                      · exact lv_astore_n hx hb d2 hj (az_pr_has hLr') (by rw [hL]; exact hnl) rfl (fun ls' hl' => hnext ls' (az_Lr_unset hLr' hl'))
                  · split at h
                    · rename_i hcond
                      cases h
                      exact hE.2.2.2 pc ad' L ls _ ce q9 H1 locs1 _ _ hE13 hcond.1 hcond.2 ⟨⟨hLr', fun w hw => by cases hw⟩, hwf', hP', hD', hS1, hag2, Nat.le_trans hn0 hn', hcc, hss, hn3'⟩ hce hcv hcl
                    · cases h
          · split at h
            · rename_i q hq
              have hm2 := az_run_mono _ _ _ _ _ _ _ _ h
              have hm3 := az_stp_mono hq
              have hres := ih _ _ _ _ _ _ _ h p e R s m args below meth c Q D cy A ad0 n0 c0 s0 hRm hK hsf hlocks htab ((az_stp_len hq).trans hL) hk hB hE
              exact az_stp_ok ⟨by omega, by omega⟩ (fun cells slots h1 h2 => ⟨by omega, by omega⟩) hK hL hd hil hq ⟨by omega, by omega⟩ hres ad ls H locs cells slots hR
            · cases h
      · cases h
    · cases h
