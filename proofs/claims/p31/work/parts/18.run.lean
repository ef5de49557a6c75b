/-! SOUNDNESS, the end: a call, and a whole run -/
theorem az_gwin (m : Nat) (hm : m < 99) : ∀ w ∈ az_ws m, w ∈ az_gw := fun w hw => (List.mem_cons.mp hw).elim (fun e => by rw [e]; exact (az_ms m hm).1) id
theorem az_rcv_of {S : List az_Shp} {m : Nat} {as : List Value} (h : az_rcv S m as = true) : ∃ b r sl N, as = .ref b :: r ∧ S[b]? = some (0, N, sl) ∧ N = az_own m := by
  unfold az_rcv at h
  split at h
  · rename_i b r
    split at h
    · rename_i ci sl hS
      exact ⟨b, r, sl, ci, rfl, hS, by simpa using h⟩
    · cases h
  · cases h
section
variable {p : Program} {l : Launch} {e : Env} {R : Room} {s : State} {m : MethodId} {args : Array Value} {below : List Frame} {meth : Method} {c : Code} {Q : State → Prop}
variable {xs : az_X} {k pc : Nat} {D : va_G} {cy : Nat → ClassId} {A : Nat → Prop} {ad0 : Nat → Nat} {n0 c0 s0 : Nat} {L : az_Ls} {st : List Value} {G : az_G} {q : az_Nx}
theorem az_call_run {f d mm x kd : Nat} {as rest : List Value} {o : az_O} {ad : Nat → Nat} {ls : Array Slot} {H : Heap} {locs : List Loc} {cells slots : Nat} {i : Instr} (hlt : l.stackTraces = false) (ih : az_say xs l f)
    (hi : (kd = 0 ∧ i = .invokevirtual x) ∨ (kd = 1 ∧ i = .invokestatic x) ∨ (kd = 2 ∧ i = .invokespecial x)) (hd : decode (az_code k) pc = .ok (i, 3)) (hcl : az_cl1 kd (az_own k) x st G.1 = some (mm, as, rest)) (hr : az_run xs f d mm 0 (az_lay mm as) [] G = some o)
    (hRm : d + 9 ≤ R.frames ∧ 60 * d + 260 ≤ R.locals) (hK : az_K p s m args meth c xs k D cy A ad0) (hsf : az_sf A s) (hL : L.length = az_ml k) (hR : az_at D cy A s.heap ad0 n0 c0 s0 ad L ls st G H locs cells slots) (hB : o.2.2.2.2.2.1 ≤ c0 + R.cells ∧ o.2.2.2.2.2.2 ≤ s0 + R.slots) :
    (∃ a, vx_Run p l e R s m args below meth c H locs cells slots (o.2.2.2.2.2.1 - G.2.2.2.1) (o.2.2.2.2.2.2 - G.2.2.2.2) (F0 m pc ls (st.map (az_c ad))) (rest.map (az_c ad)) (az_Qc D cy A ad G.1.length o a) (az_Xc D cy A ad G.1.length o) A) ∧ (∀ v ∈ rest, v ∈ st) := by
  obtain ⟨hx, hb, hown, hml, hts, hV, hA, -, ⟨hX1, hX2, hX3⟩, -⟩ := hK
  obtain ⟨⟨hLr, hst⟩, hwf, hP, hD, hS, hag, hn0, hn1, hn2, hn3⟩ := id hR
  have hmono := az_run_mono _ _ _ _ _ _ _ _ hr
  unfold az_cl1 at hcl
  split at hcl
  · rename_i m9 t hlk
    split at hcl
    · rename_i hcond
      cases hcl
      obtain ⟨htl, hkd, hcat, hcat1, hrcv⟩ := hcond
      obtain ⟨hlink, htt, hm171, hmM, html, -⟩ := az_lo _ _ hlk
      obtain ⟨hcw, hini, hcls, ⟨hn1', hn2', hpl⟩, hstat, hinst, hsel, hin2, hml20, -, -⟩ := az_ms mm hm171
      have htake : (st.take t).length = t := by rw [List.length_take]; omega
      have hc1 : ∀ v ∈ (st.take t).reverse, v.category = 1 := fun v hv => az_cat_all (by rw [hcat1, htake]) v (List.mem_reverse.mp hv)
      have hok1 : ∀ v ∈ (st.take t).reverse, az_ok G.1.length v := fun v hv => hst v (List.mem_of_mem_take (List.mem_reverse.mp hv))
      have hlen : (st.take t).reverse.length = t := by rw [List.length_reverse]; exact htake
      have hM := az_met (xs := xs) hlt ih hr hm171 D cy A ad hc1 hok1 (by rw [hlen, htt]; exact html) hwf hn3
      have hsz : ls.size = az_ml k := by rw [hLr.1, hL]
      have hcells : cells + (o.2.2.2.2.2.1 - G.2.2.2.1) ≤ R.cells ∧ slots + (o.2.2.2.2.2.2 - G.2.2.2.2) ≤ R.slots := by omega
      have hWr : 2 * (F0 m pc ls (st.map (az_c ad))).monitorRoom + (((st.drop t).map (az_c ad)).map fun v => v.category).sum ≤ 8 := by
        rw [az_cats]
        show 0 + az_cat (st.drop t) ≤ 8
        omega
      have hfix : CallFix p m c (az_code k) (az_ml k) s args az_gw (az_R (az_own k)) := ⟨hx, hb, hml, hown, hts⟩
      have hfrR : (az_rm d (o.2.2.2.2.2.1 - G.2.2.2.1) (o.2.2.2.2.2.2 - G.2.2.2.2)).frames + 1 ≤ R.frames ∧ 8 + (az_ml mm + 11) + (az_rm d (o.2.2.2.2.2.1 - G.2.2.2.1) (o.2.2.2.2.2.2 - G.2.2.2.2)).locals ≤ R.locals := by
        refine ⟨?_, ?_⟩
        · show d + 8 + 1 ≤ R.frames
          omega
        · show 8 + (az_ml mm + 11) + (60 * d + 200) ≤ R.locals
          omega
      have hPre : ∀ U : State, U.heap = H → s.WarmedH U.vm → az_Pc xs D cy A ad (st.take t).reverse G (((st.take t).reverse).map (az_c ad)).toArray U := fun U hU hW =>
        ⟨rfl, by rw [hU]; exact hP, hD, va_K.moved hW.alike hV, hsf.moved hW (fun a h1 h2 => by rw [hU]; exact hS.2.1 a h1 h2), fun q hq => hA q (Nat.le_trans hS.1 (by rw [← hU]; exact hq)), by
          rw [hag.2]
          exact ⟨va_X.moved hW.alike (by rw [hU]; exact hX1.kept (hS.2.1 _ hX2 hX3)), by rw [hU]; exact Nat.lt_of_lt_of_le hX2 hS.1, hX3⟩⟩
      have hstk : st.map (az_c ad) = (((st.take t).reverse).map (az_c ad)).reverse ++ (st.drop t).map (az_c ad) := by
        rw [List.map_reverse, List.reverse_reverse, ← List.map_append, List.take_append_drop]
      refine ⟨?_, fun v hv => List.mem_of_mem_drop hv⟩
      have gi : ∀ w ∈ az_ws mm, w ∈ az_gw := az_gwin mm hm171
      rcases hi with ⟨h0, rfl⟩ | ⟨h0, rfl⟩ | ⟨h0, rfl⟩
      · subst h0
        have hk0 : az_kd mm = 0 := hkd.elim id (fun h => absurd h.1 (by decide))
        obtain ⟨b, r, sl, N, has, hSb, hN⟩ := az_rcv_of (hrcv.elim (fun h => absurd h (by decide)) id)
        obtain ⟨hi1, hi2⟩ := hinst (Or.inl hk0)
        have hl1 : Jvm.Cond.methodLink (az_R (az_own k)) x (az_y mm) ∈ az_gw := hlink.elim id (fun h => absurd h.1 (by rw [hk0]; decide))
        have hw : az_ws mm = Jvm.Cond.code (az_y mm) (az_code mm) (az_ml mm) (az_rf (az_rt mm)) :: az_gw := by unfold az_ws az_cw; rw [if_neg (by rw [hk0]; decide)]
        have hGI : GoodIn az_gw (wsV (az_R (az_own k)) x (az_R (az_own mm)) (az_y mm) (az_ws mm)) := az_gi (fun w hw => by
          unfold wsV at hw
          rcases List.mem_append.mp hw with h | h
          · simp only [List.mem_cons, List.not_mem_nil, or_false] at h
            rcases h with rfl | rfl | rfl | rfl
            · exact hl1
            · exact hi1
            · exact hsel hk0
            · exact hini
          · exact gi w h)
        rw [has] at hM hstk hPre
        have hrl : r.length + 1 = t := by rw [← hlen, has]; rfl
        have hci8 : N < 7 := by
          have h9 := hP b _ (az_w_get hSb)
          obtain ⟨r9, h1, -⟩ := h9
          have := (List.getElem?_eq_some_iff.mp h1).1
          exact this
        have hrecv := va_recv (q := (az_R N, az_T N, az_N N)) hV hP (az_clg N hci8) (az_w_get (cy := cy) (ad := ad) hSb)
        refine ⟨_, vx_runV (C := az_R (az_own mm)) (b := ad b) (As := r.map (az_c ad)) (n := r.length) hfix hM (cwV r.length hts hGI hw rfl rfl ⟨hcls, hn1', hn2', ?_⟩ hfrR) ⟨az_blind, ?_, hPre⟩ rfl (by simp) hsz ?_ hWr hd hcells⟩
        · cases hsig : parseMethodDescriptor (az_y mm).desc with
          | none => rw [hsig] at hi2; cases hi2
          | some sg =>
            rw [hsig] at hi2
            have h8 : sg.parameters.length + 1 = az_tot mm := Option.some.inj hi2
            show some sg.parameters.length = some r.length
            rw [show sg.parameters.length = r.length by omega]
        · rw [hN] at hrecv
          exact hrecv
        · show st.map (az_c ad) = (r.map (az_c ad)).reverse ++ .ref (ad b) :: (st.drop t).map (az_c ad)
          rw [hstk]
          simp [az_c]
      · subst h0
        have hk13 : az_kd mm = 1 ∨ az_kd mm = 3 := hkd.elim Or.inl (fun h => Or.inr h.2)
        obtain ⟨hi1, hi2⟩ := hstat hk13
        have hl1 : Jvm.Cond.methodLink (az_R (az_own k)) x (az_y mm) ∈ az_gw := hlink.elim id (fun h => absurd h.1 (by rcases hk13 with h | h <;> rw [h] <;> decide))
        have hGI : GoodIn az_gw (va_wsS (az_R (az_own k)) x (az_y mm) (az_ws mm)) := az_gi (fun w hw => by
          unfold va_wsS at hw
          rcases List.mem_append.mp hw with h | h
          · simp only [List.mem_cons, List.not_mem_nil, or_false] at h
            rcases h with rfl | rfl | rfl
            · exact hl1
            · exact hi1
            · rw [hcls]; exact hini
          · exact gi w h)
        rcases hk13 with hk1 | hk3
        · have hw : az_ws mm = Jvm.Cond.code (az_y mm) (az_code mm) (az_ml mm) (az_rf (az_rt mm)) :: az_gw := by unfold az_ws az_cw; rw [if_neg (by rw [hk1]; decide)]
          exact ⟨_, vx_runS (As := ((st.take t).reverse).map (az_c ad)) (n := t) hfix hM (va_cwS t hts hGI hw rfl rfl ⟨hn1', hn2', by rw [hi2, htt]⟩ hfrR) ⟨az_blind, hPre⟩ rfl (by rw [List.length_map]; exact hlen) hsz hstk hWr hd hcells⟩
        · have hw : az_ws mm = Jvm.Cond.codeWith (az_y mm) (az_code mm) (az_ml mm) (az_rf (az_rt mm)) (az_hh mm) :: az_gw := by unfold az_ws az_cw; rw [if_pos hk3]
          exact ⟨_, vx_runSX (As := ((st.take t).reverse).map (az_c ad)) (n := t) hfix hM (vx_cwSW t hts hGI hw rfl rfl ⟨hn1', hn2', by rw [hi2, htt]⟩ hfrR) ⟨az_blind, hPre⟩ rfl (by rw [List.length_map]; exact hlen) hsz hstk hWr hd hcells⟩
      · subst h0
        have hk2 : az_kd mm = 2 := hkd.elim id (fun h => absurd h.1 (by decide))
        obtain ⟨b, r, sl, N, has, hSb, hN⟩ := az_rcv_of (hrcv.elim (fun h => absurd h (by decide)) id)
        obtain ⟨hi1, hi2⟩ := hinst (Or.inr hk2)
        obtain ⟨hnm, hrt⟩ := hin2 hk2
        have hrf : az_rf (az_rt mm) = none := by rw [hrt]; rfl
        have hw : az_ws mm = Jvm.Cond.code (az_y mm) (az_code mm) (az_ml mm) none :: az_gw := by unfold az_ws az_cw; rw [if_neg (by rw [hk2]; decide), hrf]
        rw [has] at hM hstk hPre
        have hrl : r.length + 1 = t := by rw [← hlen, has]; rfl
        have hGI : GoodIn az_gw (az_ws mm) := az_gi gi
        have hini' : (Jvm.Cond.initialized (az_y mm).cls).before args s = true := by rw [hcls]; exact hts _ hini
        have hsg : (az_y mm).cls ≠ "java/lang/invoke/MethodHandle" ∧ (az_y mm).cls ≠ "java/lang/invoke/VarHandle" ∧ (parseMethodDescriptor (az_y mm).desc).map (fun d => d.parameters.length) = some r.length := by
          refine ⟨hn1', hn2', ?_⟩
          cases hsig : parseMethodDescriptor (az_y mm).desc with
          | none => rw [hsig] at hi2; cases hi2
          | some sg =>
            rw [hsig] at hi2
            have h8 : sg.parameters.length + 1 = az_tot mm := Option.some.inj hi2
            show some sg.parameters.length = some r.length
            rw [show sg.parameters.length = r.length by omega]
        have hstk' : st.map (az_c ad) = (r.map (az_c ad)).reverse ++ .ref (ad b) :: (st.drop t).map (az_c ad) := by
          rw [hstk]
          simp [az_c]
        rcases hlink with hl1 | ⟨-, host, hl1⟩
        · exact ⟨_, vx_runI (b := ad b) (As := r.map (az_c ad)) (n := r.length) hfix hM (cwI r.length hts hGI hw rfl rfl hini' (hts _ hl1) (hts _ hi1) hnm hsg hfrR) ⟨az_blind, hPre⟩ rfl (by simp) hsz hstk' hWr hd hcells⟩
        · exact ⟨_, vx_runIN (b := ad b) (As := r.map (az_c ad)) (n := r.length) hfix hM ⟨va_cnB r.length hts hGI hw rfl rfl (hsf.1 _ hl1) hini' hsg hfrR, hnm, hts _ hi1⟩ ⟨az_blind, hPre⟩ rfl (by simp) hsz hstk' hWr hd hcells⟩
    · cases hcl
  · cases hcl
end
