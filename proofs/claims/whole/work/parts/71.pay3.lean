/-! a payment more -/
theorem ltb_lt {I : Nat → Nat → Int32} {a b : Nat} (ha : az_eb (I 33 a)) (hb : az_eb (I 33 b)) (h : ltb (fun j => az_nv (I 33 j)) (I 30) a b = true) : az_lt I a b := by
  rw [ltb_iff] at h
  unfold az_lt
  rcases h with h | ⟨h1, h2⟩
  · exact Or.inl h
  · refine Or.inr ⟨(az_nv_eq ha hb).mp (Int32.toInt_inj.mp h1), ?_⟩
    rcases h2 with h2 | ⟨h2, h3⟩
    · exact Or.inl h2
    · exact Or.inr ⟨Int32.toInt_inj.mp h2, h3⟩
theorem fb_sml {dr : Nat → Int32} : ∀ (F : List Nat), fb_si (fun k => (dr (F.getD k 0)).toInt) F.length = sml dr F := by
  intro F
  induction F with
  | nil => rfl
  | cons x F ih =>
    rw [List.length_cons, Nat.add_comm, fb_si_split]
    have e1 : fb_si (fun k => (dr ((x :: F).getD k 0)).toInt) 1 = (dr x).toInt := by
      show 0 + (dr x).toInt = _
      omega
    have e2 : fb_si (fun k => (dr ((x :: F).getD (1 + k) 0)).toInt) F.length = sml dr F := by
      rw [← ih]
      apply fb_si_cong
      intro k _
      rw [Nat.add_comm]
      rfl
    rw [e1, e2]
    rfl
theorem tk_drj {j : Nat} : ∀ {L : List Nat} {g dr dr2 : Nat → Int32} {m : Int32}, dr j = dr2 j → (tk L (g, dr, m)).2.1 j = (tk L (g, dr2, m)).2.1 j := by
  intro L
  induction L with
  | nil => intro g dr dr2 m h; exact h
  | cons x L ih =>
    intro g dr dr2 m h
    refine ih (dr := upd dr x (tkm m (g x))) (dr2 := upd dr2 x (tkm m (g x))) ?_
    rw [upde, upde, h]
theorem pay_sim {I I' : Nat → Nat → Int32} {mo nc nl ng np t : Nat} {x cost : Int32} {dr : Nat → Int32} {F : List Nat} (H : az_Sim I mo nc nl ng np t) (hnp : np < 40) (e : ∀ a, a ∈ az_dc → a ∉ [25, 31, 107, 108, 109, 110, 164, 169, 177, 178, 179, 180, 181, 182, 183] → a ≠ 112 + np → I' a = I a) (hc : az_cnt mo nc nl ng (np + 1) I') (e164' : I' 164 = I' 25) (e169' : I' 169 = I' 31) (e177' : I' 177 = I' 107) (e178' : I' 178 = I' 110) (e179' : I' 179 = I' 108) (e180' : I' 180 = I' 109) (h107 : I' 107 = upd (I 107) np x) (h109 : I' 109 = upd (I 109) np cost) (hx : az_in x nc = true) (hcost : ∃ n : Nat, n ≤ 1000 ∧ cost = nI n) (h31 : ∀ j, j < nl → 0 ≤ (I' 31 j).toInt ∧ (I' 31 j).toInt ≤ 1000 * (t + 1)) (hrow : ∀ j, j < 60 → I' (112 + np) j = dr j) (h183 : ∀ j, j < 60 → I' 183 (60 * np + j) = dr j) (h183' : ∀ i, (i < 60 * np ∨ 60 * np + 60 ≤ i) → I' 183 i = I 183 i) (h182' : ∀ i, (i < 60 * np ∨ 60 * np + 60 ≤ i) → I' 182 i = I 182 i) (h182 : ∀ k, k < F.length → I' 182 (60 * np + k) = nI (F.getD k 0)) (h181 : I' 181 = upd (I 181) np (nI F.length)) (hF : F.Pairwise (fun a b => ltb (fun j => az_nv (I 33 j)) (I 30) a b = true)) (hFl : ∀ z, z ∈ F → z < nl) (hnn : ∀ j, j < 60 → 0 ≤ (dr j).toInt) (hsup : ∀ j, j < 60 → (dr j).toInt ≠ 0 → j ∈ F) (hsum : cost.toInt = sml dr F) : az_Sim I' mo nc nl ng (np + 1) t := by
  have ep : ∀ p, p < 40 → p ≠ np → I' (112 + p) = I (112 + p) := fun p hp hpn => e _ (by unfold az_dc; exact List.mem_append_right _ (List.mem_map.mpr ⟨p, List.mem_range.mpr hp, rfl⟩)) (by simp; omega) (by omega)
  have e2 := e 2 (by decide +kernel) (by decide +kernel) (by omega)
  have e3 := e 3 (by decide +kernel) (by decide +kernel) (by omega)
  have e4 := e 4 (by decide +kernel) (by decide +kernel) (by omega)
  have e6 := e 6 (by decide +kernel) (by decide +kernel) (by omega)
  have e7 := e 7 (by decide +kernel) (by decide +kernel) (by omega)
  have e8 := e 8 (by decide +kernel) (by decide +kernel) (by omega)
  have e9 := e 9 (by decide +kernel) (by decide +kernel) (by omega)
  have e10 := e 10 (by decide +kernel) (by decide +kernel) (by omega)
  have e11 := e 11 (by decide +kernel) (by decide +kernel) (by omega)
  have e12 := e 12 (by decide +kernel) (by decide +kernel) (by omega)
  have e13 := e 13 (by decide +kernel) (by decide +kernel) (by omega)
  have e15 := e 15 (by decide +kernel) (by decide +kernel) (by omega)
  have e16 := e 16 (by decide +kernel) (by decide +kernel) (by omega)
  have e17 := e 17 (by decide +kernel) (by decide +kernel) (by omega)
  have e19 := e 19 (by decide +kernel) (by decide +kernel) (by omega)
  have e20 := e 20 (by decide +kernel) (by decide +kernel) (by omega)
  have e21 := e 21 (by decide +kernel) (by decide +kernel) (by omega)
  have e22 := e 22 (by decide +kernel) (by decide +kernel) (by omega)
  have e23 := e 23 (by decide +kernel) (by decide +kernel) (by omega)
  have e24 := e 24 (by decide +kernel) (by decide +kernel) (by omega)
  have e26 := e 26 (by decide +kernel) (by decide +kernel) (by omega)
  have e27 := e 27 (by decide +kernel) (by decide +kernel) (by omega)
  have e29 := e 29 (by decide +kernel) (by decide +kernel) (by omega)
  have e30 := e 30 (by decide +kernel) (by decide +kernel) (by omega)
  have e32 := e 32 (by decide +kernel) (by decide +kernel) (by omega)
  have e33 := e 33 (by decide +kernel) (by decide +kernel) (by omega)
  have e37 := e 37 (by decide +kernel) (by decide +kernel) (by omega)
  have e38 := e 38 (by decide +kernel) (by decide +kernel) (by omega)
  have e39 := e 39 (by decide +kernel) (by decide +kernel) (by omega)
  have e40 := e 40 (by decide +kernel) (by decide +kernel) (by omega)
  have e153 := e 153 (by decide +kernel) (by decide +kernel) (by omega)
  have e154 := e 154 (by decide +kernel) (by decide +kernel) (by omega)
  have e155 := e 155 (by decide +kernel) (by decide +kernel) (by omega)
  have e156 := e 156 (by decide +kernel) (by decide +kernel) (by omega)
  have e157 := e 157 (by decide +kernel) (by decide +kernel) (by omega)
  have e158 := e 158 (by decide +kernel) (by decide +kernel) (by omega)
  have e159 := e 159 (by decide +kernel) (by decide +kernel) (by omega)
  have e160 := e 160 (by decide +kernel) (by decide +kernel) (by omega)
  have e161 := e 161 (by decide +kernel) (by decide +kernel) (by omega)
  have e162 := e 162 (by decide +kernel) (by decide +kernel) (by omega)
  have e163 := e 163 (by decide +kernel) (by decide +kernel) (by omega)
  have e165 := e 165 (by decide +kernel) (by decide +kernel) (by omega)
  have e166 := e 166 (by decide +kernel) (by decide +kernel) (by omega)
  have e167 := e 167 (by decide +kernel) (by decide +kernel) (by omega)
  have e168 := e 168 (by decide +kernel) (by decide +kernel) (by omega)
  have e170 := e 170 (by decide +kernel) (by decide +kernel) (by omega)
  have e171 := e 171 (by decide +kernel) (by decide +kernel) (by omega)
  have e172 := e 172 (by decide +kernel) (by decide +kernel) (by omega)
  have e173 := e 173 (by decide +kernel) (by decide +kernel) (by omega)
  have e174 := e 174 (by decide +kernel) (by decide +kernel) (by omega)
  have e175 := e 175 (by decide +kernel) (by decide +kernel) (by omega)
  have e184 := e 184 (by decide +kernel) (by decide +kernel) (by omega)
  have e185 := e 185 (by decide +kernel) (by decide +kernel) (by omega)
  have e186 := e 186 (by decide +kernel) (by decide +kernel) (by omega)
  have e187 := e 187 (by decide +kernel) (by decide +kernel) (by omega)
  have e188 := e 188 (by decide +kernel) (by decide +kernel) (by omega)
  have e189 := e 189 (by decide +kernel) (by decide +kernel) (by omega)
  have e190 := e 190 (by decide +kernel) (by decide +kernel) (by omega)
  obtain ⟨⟨f153, f154, f155, f156, f157, f184, f185, f186, f187, f188, f189, f158, f159, f160, f161, f162, f163, f164, f165, f166, f167, f168, f169, f170, f172, f173, f174, f177, f178, f179, f180⟩, h2, h3, h4, h5, h6, h7, h8, h9, h10, h11, h12, h13⟩ := H
  refine ⟨⟨(e153.trans f153).trans e2.symm, (e154.trans f154).trans e3.symm, (e155.trans f155).trans e4.symm, (e156.trans f156).trans e6.symm, (e157.trans f157).trans e7.symm, (e184.trans f184).trans e8.symm, (e185.trans f185).trans e9.symm, (e186.trans f186).trans e10.symm, (e187.trans f187).trans e11.symm, (e188.trans f188).trans e12.symm, (e189.trans f189).trans e13.symm, (e158.trans f158).trans e19.symm, (e159.trans f159).trans e20.symm, (e160.trans f160).trans e21.symm, (e161.trans f161).trans e22.symm, (e162.trans f162).trans e23.symm, (e163.trans f163).trans e24.symm, e164', (e165.trans f165).trans e26.symm, (e166.trans f166).trans e27.symm, (e167.trans f167).trans e29.symm, (e168.trans f168).trans e30.symm, e169', (e170.trans f170).trans e32.symm, (e172.trans f172).trans e37.symm, (e173.trans f173).trans e38.symm, (e174.trans f174).trans e39.symm, e177', e178', e179', e180'⟩, hc, ?_, fr_edue e190 e15 e16 e17 h4, ?_, fr_ebar e40 e175 h6, fr_vld e2 e3 h7, fr_vch e6 h8, fr_vcd e19 e20 e21 e22 e24 e26 e27 h9, vlt_left h10 h31 e29 e30 e32 e33, fr_vcp e37 e38 e39 h11, ?_, ?_⟩
  · unfold az_eend at h3 ⊢
    rw [e171, e33]
    exact h3
  · intro p hp j hj
    by_cases h1 : p = np
    · subst h1
      rw [h183 j hj, hrow j hj]
    · rw [h183' _ (by omega), ep p hp h1]
      exact h5 p hp j hj
  · intro p hp
    have hl : ∀ a b, az_lt I' a b = az_lt I a b := fun a b => by unfold az_lt; rw [e33, e30]
    by_cases h1 : p = np
    · subst h1
      rw [h107, h109, h181, upde, upde, upde, if_pos rfl, if_pos rfl, if_pos rfl]
      have hnd := srt_nodup (lt := ltb (fun j => az_nv (I 33 j)) (I 30)) ltb_ir (A := F.reverse) (List.pairwise_reverse.mpr hF)
      have hlen : F.length ≤ nl := by
        have := nd_len hnd (fun z hz => hFl z (List.mem_reverse.mp hz))
        rwa [List.length_reverse] at this
      have hn60 := h2.2.2.1.2.2
      have hget : ∀ k, k < F.length → F.getD k 0 < nl := fun k hk => by
        rw [gD_e hk]
        exact hFl _ (List.getElem_mem hk)
      refine ⟨hx, hcost, F.length, by omega, rfl, fun k => F.getD k 0, fun k hk => ⟨h182 k hk, hget k hk⟩, fun k m hkm hm => ?_, fun j hj => ⟨by rw [hrow j hj]; exact hnn j hj, fun h => ?_⟩, ?_⟩
      · rw [hl]
        refine ltb_lt (vlt_eb h10 _ (hget k (by omega))) (vlt_eb h10 _ (hget m hm)) ?_
        show ltb (fun j => az_nv (I 33 j)) (I 30) (F.getD k 0) (F.getD m 0) = true
        rw [gD_e (show k < F.length by omega), gD_e hm]
        exact List.pairwise_iff_getElem.mp hF k m (by omega) hm hkm
      · rw [hrow j hj] at h
        obtain ⟨k, hk, hkj⟩ := List.getElem_of_mem (hsup j hj h)
        exact ⟨k, hk, (gD_e hk).trans hkj⟩
      · rw [hsum, ← fb_sml F]
        apply fb_si_cong
        intro k hk
        show (dr (F.getD k 0)).toInt = (I' (112 + p) (F.getD k 0)).toInt
        rw [hrow _ (by have := hget k hk; omega)]
    · have hp2 : p < np := by omega
      obtain ⟨a1, a2, w, hw, a3, f, a4, a5, a6, a7⟩ := h12 p hp2
      rw [h107, h109, h181, upde, upde, upde, if_neg h1, if_neg h1, if_neg h1, ep p (by omega) h1]
      refine ⟨a1, a2, w, hw, a3, f, fun k hk => ⟨by rw [h182' _ (by omega)]; exact (a4 k hk).1, (a4 k hk).2⟩, fun k m hkm hm => ?_, a6, a7⟩
      rw [hl]
      exact a5 k m hkm hm
  · intro p hp hp4
    obtain ⟨b1, b2⟩ := h13 p (by omega) hp4
    refine ⟨?_, fun j hj => ?_⟩
    · rw [h181, upde, if_neg (by omega)]; exact b1
    · rw [h183' _ (by omega)]; exact b2 j hj
