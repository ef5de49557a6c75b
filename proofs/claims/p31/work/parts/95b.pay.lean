/-! a payment is made: the invariant stays -/
section
variable {s s' : St} {mo nc nl ng np t : Nat}
theorem tk_cs {x : Nat} {L : List Nat} {g dr : Nat → Int32} {m : Int32} : tk (x :: L) (g, dr, m) = tk L (upd g x (g x - tkm m (g x)), upd dr x (tkm m (g x)), m - tkm m (g x)) := rfl
theorem sm_tk {w : Nat → Bool} {W : Bool} {n : Nat} : ∀ {L : List Nat} {g dr : Nat → Int32} {m : Int32}, (∀ y, y ∈ L → y < n ∧ w y = W) → sm w (tk L (g, dr, m)).1 n = sm w g n - (if W = true then m - (tk L (g, dr, m)).2.2 else 0)
  | [], g, dr, m, _ => by
    show sm w g n = sm w g n - (if W = true then m - m else 0)
    split <;> grind
  | x :: L, g, dr, m, h => by
    obtain ⟨h1, h2⟩ := h x List.mem_cons_self
    rw [tk_cs, sm_tk (L := L) (fun y hy => h y (List.mem_cons_of_mem _ hy)), sm_upd h1, h2]
    cases W
    · simp
    · simp only [if_true]
      grind
theorem tk_sum : ∀ {L : List Nat} {g dr : Nat → Int32} {m : Int32}, L.Nodup → (∀ y, y ∈ L → dr y = 0) → ∀ j, (tk L (g, dr, m)).1 j + (tk L (g, dr, m)).2.1 j = g j + dr j
  | [], g, dr, m, _, _, j => rfl
  | x :: L, g, dr, m, hn, hd, j => by
    rw [List.nodup_cons] at hn
    rw [tk_cs, tk_sum (L := L) hn.2 (fun y hy => by rw [up_ne9 (ne_mem hn.1 hy)]; exact hd y (List.mem_cons_of_mem _ hy))]
    by_cases hj : j = x
    · subst hj
      rw [up_eq9, up_eq9, hd j List.mem_cons_self]
      grind
    · rw [up_ne9 hj, up_ne9 hj]
theorem rsn_0 {a cost : Int32} (h : rsn s a cost = 0) : s 24 a.toNatClampNeg ≠ 2 ∧ s 6 (s 19 a.toNatClampNeg).toNatClampNeg = 0 ∧ ¬ balS s a < cost ∧ npN s < 40 := by
  unfold rsn at h
  by_cases h1 : s 24 a.toNatClampNeg = 2
  · rw [if_pos h1] at h; exact absurd h (by decide)
  · rw [if_neg h1] at h
    by_cases h2 : s 24 a.toNatClampNeg = 1
    · rw [if_pos h2] at h; exact absurd h (by decide)
    · rw [if_neg h2] at h
      by_cases h3 : s 6 (s 19 a.toNatClampNeg).toNatClampNeg = 0
      · rw [if_pos h3] at h
        by_cases h4 : balS s a < cost
        · rw [if_pos h4] at h; exact absurd h (by decide)
        · rw [if_neg h4] at h
          by_cases h5 : npN s < 40
          · exact ⟨h1, h3, h4, h5⟩
          · rw [if_neg h5] at h; exact absurd h (by decide)
      · rw [if_neg h3] at h; exact absurd h (by decide)
theorem int_sub {x y z : Int32} (h : x + y = z) (hx : 0 ≤ x.toInt) (hz : x.toInt ≤ z.toInt) : y.toInt = z.toInt - x.toInt := by
  have e : y = z - x := by rw [← h]; grind
  have := z.toInt_lt
  rw [e, Int32.toInt_sub, Int.bmod_eq_of_le (by omega) (by omega)]
end
section
variable {s : St} {t : Nat} {a b e f : Int32}
set_option maxHeartbeats 2000000 in
theorem S9 (H : PI s t) : OKs s t (f_pay s a b) := by
  have H0 := H
  obtain ⟨mo, nc, nl, ng, np, ⟨⟨⟨n1, n3⟩, ⟨n4, n6⟩, ⟨n7, n9⟩, ⟨n10, n12⟩, ⟨n13, n15⟩⟩, q2, q3, q4, q5, q6, q7, q8⟩, q9, q10, q11, q12, q13, q14, q15, q16, q17⟩ := H
  have HP : PA s mo nc nl ng np t := ⟨⟨⟨⟨n1, n3⟩, ⟨n4, n6⟩, ⟨n7, n9⟩, ⟨n10, n12⟩, ⟨n13, n15⟩⟩, q2, q3, q4, q5, q6, q7, q8⟩, q9, q10, q11, q12, q13, q14, q15, q16, q17⟩
  have enc : ncN s = nc := by unfold ncN; rw [n4, nI_clamp (by omega)]
  have enl : nlN s = nl := by unfold nlN; rw [n7, nI_clamp (by omega)]
  have enp : npN s = np := by unfold npN; rw [n13, nI_clamp (by omega)]
  unfold f_pay
  rw [enc]
  by_cases h : az_in a nc = true ∧ (1 ≤ b ∧ b ≤ 1000) ∧ rsn s a (nI (lowN s b.toNatClampNeg)) = 0
  · rw [if_pos h]
    obtain ⟨h1, h2, h3⟩ := h
    obtain ⟨m, m1, m2, m3⟩ := bz_rg (a := 1) (n := 1000) (by omega) h2 (by omega)
    have hbt : b.toNatClampNeg = m := by rw [m3, nI_clamp (by omega)]
    obtain ⟨f1, -, -⟩ := few_f HP.1 m1 m2
    rw [hbt] at h3 ⊢
    generalize hlo : lowN s m = lo at *
    obtain ⟨r1, r2, r3, r4⟩ := rsn_0 h3
    rw [enp] at r4
    refine ⟨?_, fun hbb => absurd hbb (by show s 106 5 ≠ bad; rw [n13]; exact nbadn (by omega))⟩
    obtain ⟨k1, k2⟩ := az_in_k h1
    have hnl60 : nl * 1000 < 2 ^ 31 := by have : nl * 1000 ≤ 60 * 1000 := Nat.mul_le_mul_right _ n9; omega
    have hlf := PA_left HP
    obtain ⟨o1, o2⟩ := ordR_spec (lt := ltS s) ltb_t ltb_tot (P := pOn (s 29) (s 31) a) (n := nl)
    have hbal : (balS s a).toInt = sml (s 31) (ordR (ltS s) (pOn (s 29) (s 31) a) nl) := by
      have := sml_ord (lt := ltS s) (cd := s 29) (g := s 31) (x := a) (B := 1000) (n := nl) hlf hnl60
      rw [← this]
      unfold balS
      rw [enl]
    have hnd := nd_rev (srt_nodup (lt := ltS s) ltb_ir o2)
    obtain ⟨L, hL⟩ : ∃ L, L = (ordR (ltS s) (pOn (s 29) (s 31) a) nl).reverse := ⟨_, rfl⟩
    rw [← hL] at hnd
    have hsm : (nI lo).toInt ≤ sml (s 31) L := by
      rw [hL, sml_rev, ← hbal]
      rw [Int32.lt_iff_toInt_lt] at r3
      omega
    have hmem : ∀ x, x ∈ L → x < nl ∧ s 29 x = a ∧ 0 < (s 31 x).toInt := fun x hx => by
      rw [hL, List.mem_reverse] at hx
      obtain ⟨u1, u2⟩ := (o1 x).mp hx
      unfold pOn at u2
      rw [decide_eq_true_eq, Int32.lt_iff_toInt_lt] at u2
      exact ⟨u1, u2.1, u2.2⟩
    have hpos : ∀ x, x ∈ L → 0 ≤ (s 31 x).toInt := fun x hx => by have := (hmem x hx).2.2; omega
    have hm0 : 0 ≤ (nI lo).toInt := by rw [nI_toInt (by omega)]; omega
    obtain ⟨b1, b2, -⟩ := tk_bd (B := 0) (L := L) (g := s 31) (dr := fun _ => 0) (m := nI lo) hnd hpos hm0
    obtain ⟨d1, d2, d3⟩ := tk_dr2 (L := L) (g := s 31) (dr := fun _ => 0) (m := nI lo) hnd hpos hm0
    have hfu := tk_full (L := L) (g := s 31) (dr := fun _ => 0) (m := nI lo) hnd hpos hm0 hsm
    have hts := tk_sum (L := L) (g := s 31) (dr := fun _ => 0) (m := nI lo) hnd (fun _ _ => rfl)
    have hsk : ∀ x : Int32, lft (az_set s 31 (tk L (s 31, fun _ => 0, nI lo)).1) nl x = lft s nl x - (if s 19 a.toNatClampNeg = x then nI lo else 0) := fun x => by
      unfold lft
      have := sm_tk (w := fun j => decide (s 19 (s 29 j).toNatClampNeg = x)) (W := decide (s 19 a.toNatClampNeg = x)) (n := nl) (L := L) (g := s 31) (dr := fun _ => 0) (m := nI lo) (fun y hy => ⟨(hmem y hy).1, by rw [(hmem y hy).2.1]⟩)
      rw [hfu] at this
      simp only [az_sete, decide_eq_true_eq, Int32.sub_zero, if_true, Nat.reduceEqDiff, if_false] at this ⊢
      exact this
    have hdz : ∀ j, j ∉ L → (tk L (s 31, fun _ => 0, nI lo)).2.1 j = 0 := d1
    have hdn : ∀ j, 0 ≤ ((tk L (s 31, fun _ => 0, nI lo)).2.1 j).toInt := fun j => by
      by_cases hj : j ∈ L
      · exact d2 j hj
      · rw [hdz j hj]; decide
    have hbj : ∀ j, j < nl → 0 ≤ ((tk L (s 31, fun _ => 0, nI lo)).1 j).toInt ∧ ((tk L (s 31, fun _ => 0, nI lo)).1 j).toInt ≤ (s 31 j).toInt := fun j hj => by
      by_cases hjl : j ∈ L
      · exact b2 j hjl
      · rw [b1 j hjl]; exact ⟨(hlf j hj).1, Int.le_refl _⟩
    have hdj : ∀ j, j < nl → ((tk L (s 31, fun _ => 0, nI lo)).2.1 j).toInt = (s 31 j).toInt - ((tk L (s 31, fun _ => 0, nI lo)).1 j).toInt := fun j hj => int_sub (by rw [hts j]; exact Int32.add_zero _) (hbj j hj).1 (hbj j hj).2
    have hso : fb_si (fun j => ((tk L (s 31, fun _ => 0, nI lo)).2.1 j).toInt) 60 = (lo : Int) := by
      rw [← smi_all (L := L) hnd (fun x hx => by have := (hmem x hx).1; omega) (fun j _ hj => by rw [hdz j hj]; rfl), smi_sml]
      rw [hfu, nI_toInt (by omega), show (0 : Int32).toInt = 0 from rfl] at d3
      omega
    unfold payS tkS
    rw [enl, enp, ← hL]
    generalize hT : tk L (s 31, fun _ => 0, nI lo) = T at *
    have eop : ∀ q, q < 40 → q ≠ np → az_set (az_up (az_up (az_up (az_up (az_up (az_up (az_set s 31 T.1) 25 a.toNatClampNeg (s 0 6)) 106 5 (nI (np + 1))) 107 np a) 108 np (nI lo)) 109 np (nI lo)) 110 np (s 0 6)) (112 + np) (fun j => if j < 60 then T.2.1 j else s (112 + np) j) (112 + q) = s (112 + q) := fun q hq hne => by
      rw [az_set_ne (by omega)]
      simp (disch := omega) only [az_up_ne, az_set_ne]
    have eon : az_set (az_up (az_up (az_up (az_up (az_up (az_up (az_set s 31 T.1) 25 a.toNatClampNeg (s 0 6)) 106 5 (nI (np + 1))) 107 np a) 108 np (nI lo)) 109 np (nI lo)) 110 np (s 0 6)) (112 + np) (fun j => if j < 60 then T.2.1 j else s (112 + np) j) (112 + np) = (fun j => if j < 60 then T.2.1 j else s (112 + np) j) := by rw [az_sete, if_pos rfl]
    have eou : ∀ r, r < 112 → az_set (az_up (az_up (az_up (az_up (az_up (az_up (az_set s 31 T.1) 25 a.toNatClampNeg (s 0 6)) 106 5 (nI (np + 1))) 107 np a) 108 np (nI lo)) 109 np (nI lo)) 110 np (s 0 6)) (112 + np) (fun j => if j < 60 then T.2.1 j else s (112 + np) j) r = az_up (az_up (az_up (az_up (az_up (az_up (az_set s 31 T.1) 25 a.toNatClampNeg (s 0 6)) 106 5 (nI (np + 1))) 107 np a) 108 np (nI lo)) 109 np (nI lo)) 110 np (s 0 6) r := fun r hr => az_set_ne (by omega)
    generalize hS' : az_set (az_up (az_up (az_up (az_up (az_up (az_up (az_set s 31 T.1) 25 a.toNatClampNeg (s 0 6)) 106 5 (nI (np + 1))) 107 np a) 108 np (nI lo)) 109 np (nI lo)) 110 np (s 0 6)) (112 + np) (fun j => if j < 60 then T.2.1 j else s (112 + np) j) = s' at *
    have fr : ∀ r, r < 112 → r ≠ 31 → r ≠ 25 → r ≠ 106 → r ≠ 107 → r ≠ 108 → r ≠ 109 → r ≠ 110 → s' r = s r := fun r a1 a2 a3 a4 a5 a6 a7 a8 => by
      rw [eou r a1, az_up_ne a8, az_up_ne a7, az_up_ne a6, az_up_ne a5, az_up_ne a4, az_up_ne a3, az_set_ne a2]
    have e31 : s' 31 = T.1 := by rw [eou 31 (by decide)]; simp [az_upe, az_sete]
    have e25 : s' 25 = upd (s 25) a.toNatClampNeg (s 0 6) := by rw [eou 25 (by decide)]; simp [az_upe, az_sete]
    have e106 : s' 106 5 = nI (np + 1) := by rw [eou 106 (by decide)]; simp [az_upe, az_sete, upde]
    have e107 : s' 107 = upd (s 107) np a := by rw [eou 107 (by decide)]; simp [az_upe, az_sete]
    have e108 : s' 108 = upd (s 108) np (nI lo) := by rw [eou 108 (by decide)]; simp [az_upe, az_sete]
    have e109 : s' 109 = upd (s 109) np (nI lo) := by rw [eou 109 (by decide)]; simp [az_upe, az_sete]
    clear hS' eou
    have fr0 : ∀ r, (r < 112 ∧ r ≠ 31 ∧ r ≠ 25 ∧ r ≠ 106 ∧ r ≠ 107 ∧ r ≠ 108 ∧ r ≠ 109 ∧ r ≠ 110) → s' r = s r := fun r h => fr r h.1 h.2.1 h.2.2.1 h.2.2.2.1 h.2.2.2.2.1 h.2.2.2.2.2.1 h.2.2.2.2.2.2.1 h.2.2.2.2.2.2.2
    have n40 : np + 1 ≤ 40 := r4
    have eo6 : ∀ j, j < 60 → s' (112 + np) j = T.2.1 j := fun j hj => by rw [eon]; exact if_pos hj
    show PI s' (t + 1)
    refine ⟨mo, nc, nl, ng, np + 1, ⟨⟨⟨by rw [fr0 0 (by decide)]; exact n1, n3⟩, ⟨by rw [fr0 18 (by decide)]; exact n4, n6⟩, ⟨by rw [fr0 28 (by decide)]; exact n7, n9⟩, ⟨by rw [fr0 36 (by decide)]; exact n10, n12⟩, ⟨e106, n40⟩⟩, fr_ebar (fr0 40 (by decide)) q2, fr_vld (fr0 2 (by decide)) (fr0 3 (by decide)) q3, fr_vch (fr0 6 (by decide)) q4, fr_vcd (fr0 19 (by decide)) (fr0 20 (by decide)) (fr0 21 (by decide)) (fr0 22 (by decide)) (fr0 24 (by decide)) (fr0 26 (by decide)) (fr0 27 (by decide)) q5, az_vlt_t (vlt_left q6 (fun j hj => ?_) (fr0 29 (by decide)) (fr0 30 (by decide)) (fr0 32 (by decide)) (fr0 33 (by decide))), fr_vcp (fr0 37 (by decide)) (fr0 38 (by decide)) (fr0 39 (by decide)) q7, fun p hp => ?_⟩, fr_x1 (fr0 7 (by decide)) q9, fun j hj => ?_, ⟨fun j hj => ?_, fun p hp => ?_⟩, x4_up q12 n1 e25, fun j hj hd => ?_, fun p hp => ?_, fun p hp j hj ho => ?_, fun ch hc => ?_, fun j hj => ?_⟩
    · rw [e31]
      have := hbj j hj
      have := (q6 j hj).2.2.1
      omega
    · rw [e107, e109, upde, upde]
      by_cases hpn : p = np
      · subst hpn
        rw [if_pos rfl, if_pos rfl]
        refine ⟨h1, lo, by omega, rfl, fun j hj => ?_, ?_⟩
        · rw [eo6 j hj]
          exact ⟨hdn j, fun hq => hdz j fun hjl => by have := (hmem j hjl).1; omega⟩
        · rw [← hso]
          exact fb_si_cong fun j hj => by rw [eo6 j hj]
      · rw [if_neg hpn, if_neg hpn, eop p (by omega) hpn]
        exact q8 p (by omega)
    · rw [fr0 32 (by decide), fr0 33 (by decide), e31]
      refine ⟨(q10 j hj).1, fun hq => (q10 j hj).2 ?_⟩
      have := hbj j hj
      omega
    · rw [fr0 24 (by decide), fr0 29 (by decide)]
      exact q11.1 j hj
    · rw [fr0 24 (by decide), e107, upde]
      split
      · exact r1
      · exact q11.2 p (by omega)
    · rw [fr0 6 (by decide), fr0 19 (by decide), fr0 29 (by decide)] at hd
      have h0 := q13 j hj hd
      have h1 := hbj j hj
      rw [h0, show (0 : Int32).toInt = 0 from rfl] at h1
      rw [e31]
      apply Int32.toInt_inj.mp
      rw [show (0 : Int32).toInt = 0 from rfl]
      omega
    · rw [e108, e109, upde, upde]
      by_cases hpn : p = np
      · rw [if_pos hpn, if_pos hpn]
        exact ⟨lo, rfl, by omega, by rw [nI_toInt (by omega)]; omega⟩
      · rw [if_neg hpn, if_neg hpn]
        exact q14 p (by omega)
    · rw [fr0 29 (by decide), e107, upde]
      by_cases hpn : p = np
      · subst hpn
        rw [eo6 j (by omega)] at ho
        rw [if_pos rfl]
        have hjl : j ∈ L := Classical.byContradiction fun hjl => ho (hdz j hjl)
        exact (hmem j hjl).2.1
      · rw [if_neg hpn]
        rw [eop p (by omega) hpn] at ho
        exact q15 p (by omega) j hj ho
    · have h0 := q16 ch hc
      have e1 : lft s' nl (nI ch) = lft (az_set s 31 T.1) nl (nI ch) := by
        unfold lft
        rw [e31, fr0 19 (by decide), fr0 29 (by decide)]
        simp [az_sete]
      have e2 : ntt s' (np + 1) (nI ch) = ntt s np (nI ch) + (if s 19 a.toNatClampNeg = nI ch then nI lo else 0) := by
        unfold ntt
        rw [sm_s, fr0 19 (by decide), e107, e109, up_eq9, up_eq9]
        have e : sm (fun p => decide (s 19 (upd (s 107) np a p).toNatClampNeg = nI ch)) (upd (s 109) np (nI lo)) np = sm (fun p => decide (s 19 (s 107 p).toNatClampNeg = nI ch)) (s 109) np := sm_cg fun p hp => by rw [up_ne9 (by omega), up_ne9 (by omega)]
        rw [e]
        simp only [decide_eq_true_eq]
      rw [e1, e2, hsk, fr0 10 (by decide), fr0 11 (by decide), fr0 12 (by decide), fr0 13 (by decide), fr0 15 (by decide), fr0 16 (by decide), fr0 17 (by decide), fr0 8 (by decide), fr0 9 (by decide)]
      grind
    · have h0 := q17 j hj
      rw [e31, fb_si_succ, eo6 j (by omega)]
      rw [fb_si_cong (g := fun p => (s (112 + p) j).toInt) (fun p hp => by rw [eop p (by omega) (by omega)])]
      rw [hdj j hj]
      omega
  · rw [if_neg h]
    exact OKq H0
end
