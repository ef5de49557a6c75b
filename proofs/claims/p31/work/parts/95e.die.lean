/-! a chain closes: the invariant stays -/
section
variable {ch cd o g : Nat → Int32} {est cl x og v : Int32} {n nl : Nat}
theorem fdp_z : ∀ j, j < n → ch (cd j).toNatClampNeg = x → o j = og → (fd (fdp ch cd o est cl x og) n 0 (g, v, 0)).1 j = 0 := by
  have key := fd_inv (n := n) (h := fdp ch cd o est cl x og) (Inv := fun k r => ∀ j, j < k → ch (cd j).toNatClampNeg = x → o j = og → r.1 j = 0) ?_ n 0 (g, v, 0) (Nat.zero_add _) (fun j hj => absurd hj (Nat.not_lt_zero _))
  · exact key
  · intro k r hk h j hj h1 h2
    by_cases e : j = k
    · subst e
      unfold fdp
      rw [if_pos h1, if_pos h2]
      exact up_eq9
    · have h3 := h j (by omega) h1 h2
      unfold fdp
      split
      · split
        · show upd r.1 k 0 j = 0
          rw [up_ne9 e]
          exact h3
        · exact h3
      · exact h3
theorem fdp_ac {c : Int32} (hn : n ≤ nl) : sm (fun j => decide (ch (cd j).toNatClampNeg = c)) (fd (fdp ch cd o est cl x og) n 0 (g, v, 0)).1 nl + (if x = c then (fd (fdp ch cd o est cl x og) n 0 (g, v, 0)).2.1 + (fd (fdp ch cd o est cl x og) n 0 (g, v, 0)).2.2 else 0) = sm (fun j => decide (ch (cd j).toNatClampNeg = c)) g nl + (if x = c then v else 0) := by
  have key := fd_inv (n := n) (h := fdp ch cd o est cl x og) (Inv := fun k r => sm (fun j => decide (ch (cd j).toNatClampNeg = c)) r.1 nl + (if x = c then r.2.1 + r.2.2 else 0) = sm (fun j => decide (ch (cd j).toNatClampNeg = c)) g nl + (if x = c then v else 0)) ?_ n 0 (g, v, 0) (Nat.zero_add _) (by dsimp only; rw [Int32.add_zero])
  · exact key
  · intro k r hk h
    unfold fdp
    by_cases h1 : ch (cd k).toNatClampNeg = x
    · rw [if_pos h1]
      by_cases h2 : o k = og
      · rw [if_pos h2]
        dsimp only
        rw [sm_upd (show k < nl by omega), h1, ← h]
        by_cases q : x = c
        · rw [if_pos q, if_pos (decide_eq_true q), if_pos q]; grind
        · rw [if_neg q, if_neg (by rw [decide_eq_true_eq]; exact q), if_neg q]; grind
      · rw [if_neg h2]; exact h
    · rw [if_neg h1]; exact h
/-- what of a lot counts -/
def gaN (ch cd o g : Nat → Int32) (x og : Int32) (j : Nat) : Nat := if ch (cd j).toNatClampNeg = x ∧ o j = og then (g j).toInt.toNat else 0
theorem gaN_bd (hg : ∀ j, j < nl → 0 ≤ (g j).toInt ∧ (g j).toInt ≤ 1000) : ∀ j, j < nl → gaN ch cd o g x og j ≤ 1000 := fun j hj => by
  unfold gaN
  have := hg j hj
  split <;> omega
theorem fclm_G (hg : ∀ j, j < nl → 0 ≤ (g j).toInt ∧ (g j).toInt ≤ 1000) : ∀ k, k ≤ nl → fd (fclm ch cd o g x og) k 0 0 = nI (fb_sm (gaN ch cd o g x og) k) := by
  intro k
  induction k with
  | zero => intro _; rfl
  | succ k ih =>
    intro hk
    rw [fd_split (h := fclm ch cd o g x og) k 1 0 0, ih (by omega), Nat.zero_add, fb_sm_succ]
    show fclm ch cd o g x og k _ = _
    unfold fclm gaN
    have h := hg k (by omega)
    have e : g k = nI (g k).toInt.toNat := by
      apply Int32.toInt_inj.mp
      rw [nI_toInt (by omega)]
      omega
    by_cases h1 : ch (cd k).toNatClampNeg = x
    · by_cases h2 : o k = og
      · rw [if_pos h1, if_pos h2, if_pos ⟨h1, h2⟩, ← bz_add, ← e]
      · rw [if_pos h1, if_neg h2, if_neg (fun q => h2 q.2), Nat.add_zero]
    · rw [if_neg h1, if_neg (fun q => h1 q.1), Nat.add_zero]
theorem fdp_pd {E : Nat} (hn : nl ≤ 60) (hg : ∀ j, j < nl → 0 ≤ (g j).toInt ∧ (g j).toInt ≤ 1000) (hE : E ≤ 9999) : ∃ P : Nat, P ≤ E ∧ (fd (fdp ch cd o (nI E) (fd (fclm ch cd o g x og) nl 0 0) x og) nl 0 (g, v, 0)).2.2 = nI P := by
  rw [fclm_G hg nl (Nat.le_refl _)]
  obtain ⟨C, hC⟩ : ∃ C, C = fb_sm (gaN ch cd o g x og) nl := ⟨_, rfl⟩
  have hCb : C ≤ 60000 := by
    have := fb_sm_bound (f := gaN ch cd o g x og) (c := 1000) (n := nl) (gaN_bd hg)
    omega
  rw [← hC]
  have T : ∀ k, k ≤ nl → (∀ i, k ≤ i → (fd (fdp ch cd o (nI E) (nI C) x og) k 0 (g, v, 0)).1 i = g i) ∧ ∃ P : Nat, (fd (fdp ch cd o (nI E) (nI C) x og) k 0 (g, v, 0)).2.2 = nI P ∧ (C ≤ E → P = fb_sm (gaN ch cd o g x og) k) ∧ (E < C → P * C ≤ E * fb_sm (gaN ch cd o g x og) k) := by
    intro k
    induction k with
    | zero => intro _; exact ⟨fun _ _ => rfl, 0, rfl, fun _ => rfl, fun _ => by omega⟩
    | succ k ih =>
      intro hk
      obtain ⟨i1, P, i2, i3, i4⟩ := ih (by omega)
      rw [fd_split (h := fdp ch cd o (nI E) (nI C) x og) k 1 0 (g, v, 0), Nat.zero_add]
      generalize fd (fdp ch cd o (nI E) (nI C) x og) k 0 (g, v, 0) = r at *
      rw [show ∀ (h : Nat → (Nat → Int32) × Int32 × Int32 → (Nat → Int32) × Int32 × Int32), fd h 1 k r = h k r from fun _ => rfl, fb_sm_succ]
      have h := hg k (by omega)
      obtain ⟨q, hq⟩ : ∃ q, q = (g k).toInt.toNat := ⟨_, rfl⟩
      have e : g k = nI q := by
        apply Int32.toInt_inj.mp
        rw [nI_toInt (by omega)]
        omega
      unfold fdp
      by_cases h1 : ch (cd k).toNatClampNeg = x
      · by_cases h2 : o k = og
        · rw [if_pos h1, if_pos h2]
          have eg : gaN ch cd o g x og k = q := by unfold gaN; rw [if_pos ⟨h1, h2⟩, hq]
          refine ⟨fun i hi => ?_, ?_⟩
          · show upd r.1 k 0 i = g i
            rw [up_ne9 (by omega)]
            exact i1 i (by omega)
          · show ∃ P, r.2.2 + fpt (nI E) (nI C) (r.1 k) = nI P ∧ _
            rw [i1 k (Nat.le_refl _), e, i2, eg]
            unfold fpt
            by_cases hCE : C ≤ E
            · rw [if_pos (show nI C ≤ nI E by rw [bz_le (by omega) (by omega)]; exact hCE), bz_add]
              exact ⟨P + q, rfl, fun _ => by rw [i3 hCE], fun hh => absurd hh (by omega)⟩
            · have hq1 : q ≤ 1000 := by omega
              have hEq : E * q ≤ 9999 * 1000 := Nat.mul_le_mul hE hq1
              rw [if_neg (show ¬ nI C ≤ nI E by rw [bz_le (by omega) (by omega)]; exact hCE), if_pos (show (0 : Int32) < nI C by rw [show (0 : Int32) = nI 0 from rfl, bz_lt (by omega) (by omega)]; omega), bz_mul, bz_div (by omega) (by omega), bz_add]
              refine ⟨P + E * q / C, rfl, fun hh => absurd hh hCE, fun hh => ?_⟩
              have h4 := i4 hh
              have h5 := Nat.div_mul_le_self (E * q) C
              rw [Nat.add_mul, Nat.mul_add]
              omega
        · rw [if_pos h1, if_neg h2]
          have eg : gaN ch cd o g x og k = 0 := by unfold gaN; rw [if_neg (fun q => h2 q.2)]
          rw [eg, Nat.add_zero]
          exact ⟨fun i hi => i1 i (by omega), P, i2, i3, i4⟩
      · rw [if_neg h1]
        have eg : gaN ch cd o g x og k = 0 := by unfold gaN; rw [if_neg (fun q => h1 q.1)]
        rw [eg, Nat.add_zero]
        exact ⟨fun i hi => i1 i (by omega), P, i2, i3, i4⟩
  obtain ⟨-, P, t1, t2, t3⟩ := T nl (Nat.le_refl _)
  refine ⟨P, ?_, t1⟩
  rw [← hC] at t2 t3
  by_cases hCE : C ≤ E
  · rw [t2 hCE]; exact hCE
  · exact Nat.le_of_mul_le_mul_right (t3 (by omega)) (by omega)
end
theorem die_ring {L0 L1 L2 L3 L4 v0 v1 v2 v3 v4 p0 p1 p2 p3 n x10 x11 y x15 x16 x17 R : Int32} (a0 : L1 + (v1 + p0) = L0 + v0) (a1 : L2 + (v2 + p1) = L1 + v1) (a2 : L3 + (v3 + p2) = L2 + v2) (a3 : L4 + (v4 + p3) = L3 + v3) (h : L0 + n + x10 + x11 + y + v0 + x15 + x16 + x17 = R) : L4 + n + x10 + x11 + (y + p0 + p1 + p2 + p3) + v4 + x15 + x16 + x17 = R := by grind
theorem die_rin0 {L0 L1 L2 L3 L4 n x10 x11 y v0 x15 x16 x17 R : Int32} (a0 : L1 + 0 = L0 + 0) (a1 : L2 + 0 = L1 + 0) (a2 : L3 + 0 = L2 + 0) (a3 : L4 + 0 = L3 + 0) (h : L0 + n + x10 + x11 + y + v0 + x15 + x16 + x17 = R) : L4 + n + x10 + x11 + y + v0 + x15 + x16 + x17 = R := by grind
section
variable {s : St} {t mo nc nl ng np : Nat} {a b e f : Int32}
theorem payO_f {r : P3} {x og : Int32} {E : Nat} (enl : nlN s = nl) (hn : nl ≤ 60) (hg : ∀ j, j < nl → 0 ≤ (r.1 j).toInt ∧ (r.1 j).toInt ≤ 1000) (hE : E ≤ 9999) (r' : P3) (hr : r' = payO s x og (nI E) r) : (∀ j, r'.1 j = r.1 j ∨ r'.1 j = 0) ∧ (∀ j, j < nl → s 19 (s 29 j).toNatClampNeg = x → s 30 j = og → r'.1 j = 0) ∧ (∃ P : Nat, P ≤ E ∧ r'.2.2 = nI P) ∧ ∀ c : Int32, sm (fun j => decide (s 19 (s 29 j).toNatClampNeg = c)) r'.1 nl + (if x = c then r'.2.1 + r'.2.2 else 0) = sm (fun j => decide (s 19 (s 29 j).toNatClampNeg = c)) r.1 nl + (if x = c then r.2.1 else 0) := by
  rw [hr]
  unfold payO
  rw [enl]
  exact ⟨fdp_or, fdp_z, fdp_pd hn hg hE, fun c => fdp_ac (Nat.le_refl _)⟩
theorem or_bd {g g' : Nat → Int32} (h : ∀ j, g' j = g j ∨ g' j = 0) (hg : ∀ j, j < nl → 0 ≤ (g j).toInt ∧ (g j).toInt ≤ 1000) : ∀ j, j < nl → 0 ≤ (g' j).toInt ∧ (g' j).toInt ≤ 1000 := fun j hj => by
  rcases h j with q | q
  · rw [q]; exact hg j hj
  · rw [q]; decide
set_option maxHeartbeats 1000000 in
theorem S17 (H : PI s t) : OKs s t (f_die s a b) := by
  have H0 := H
  obtain ⟨mo, nc, nl, ng, np, ⟨⟨⟨n1, n3⟩, ⟨n4, n6⟩, ⟨n7, n9⟩, ⟨n10, n12⟩, ⟨n13, n15⟩⟩, q2, q3, q4, q5, q6, q7, q8⟩, q9, q10, q11, q12, q13, q14, q15, q16, q17⟩ := H
  have HP : PA s mo nc nl ng np t := ⟨⟨⟨⟨n1, n3⟩, ⟨n4, n6⟩, ⟨n7, n9⟩, ⟨n10, n12⟩, ⟨n13, n15⟩⟩, q2, q3, q4, q5, q6, q7, q8⟩, q9, q10, q11, q12, q13, q14, q15, q16, q17⟩
  have enl : nlN s = nl := by unfold nlN; rw [n7, nI_clamp (by omega)]
  have hlf := PA_left HP
  unfold f_die
  by_cases h : az_in a 4 = true ∧ (0 ≤ b ∧ b ≤ 9999) ∧ s 6 a.toNatClampNeg = 0
  · rw [if_pos h]
    obtain ⟨h1, h2, h3⟩ := h
    obtain ⟨k1, k2⟩ := az_in_k h1
    obtain ⟨E, -, hE, eE⟩ := bz_rg (a := 0) (n := 9999) (by omega) h2 (by omega)
    obtain ⟨u1, u2, ⟨P0, u3, u4⟩, u5⟩ := payO_f (s := s) (r := (s 31, s 13 a.toNatClampNeg, 0)) (x := a) (og := 0) (E := E) enl n9 hlf hE (die0 s a b) (by unfold die0; rw [eE])
    generalize hd0 : die0 s a b = D0 at *
    have g0 := or_bd (nl := nl) u1 hlf
    have e0 : b - D0.2.2 = nI (E - P0) := by rw [eE, u4, bz_sub u3]
    obtain ⟨v1, v2, ⟨P1, v3, v4⟩, v5⟩ := payO_f (s := s) (r := D0) (x := a) (og := 1) (E := E - P0) enl n9 g0 (by omega) (die1 s a b) (by unfold die1; rw [hd0, e0])
    generalize hd1 : die1 s a b = D1 at *
    have g1 := or_bd (nl := nl) v1 g0
    have e1 : b - D0.2.2 - D1.2.2 = nI (E - P0 - P1) := by rw [e0, v4, bz_sub v3]
    obtain ⟨w1, w2, ⟨P2, w3, w4⟩, w5⟩ := payO_f (s := s) (r := D1) (x := a) (og := 2) (E := E - P0 - P1) enl n9 g1 (by omega) (die2 s a b) (by unfold die2; rw [hd0, hd1, e1])
    generalize hd2 : die2 s a b = D2 at *
    have g2 := or_bd (nl := nl) w1 g1
    have e2 : b - D0.2.2 - D1.2.2 - D2.2.2 = nI (E - P0 - P1 - P2) := by rw [e1, w4, bz_sub w3]
    obtain ⟨y1, y2, ⟨P3, y3, y4⟩, y5⟩ := payO_f (s := s) (r := D2) (x := a) (og := 3) (E := E - P0 - P1 - P2) enl n9 g2 (by omega) (die3 s a b) (by unfold die3; rw [hd0, hd1, hd2, e2])
    generalize hd3 : die3 s a b = D3 at *
    have e3 : b - D0.2.2 - D1.2.2 - D2.2.2 - D3.2.2 = nI (E - P0 - P1 - P2 - P3) := by rw [e2, y4, bz_sub y3]
    refine ⟨?_, fun hbb => absurd hbb (by show b - D0.2.2 - D1.2.2 - D2.2.2 - D3.2.2 ≠ bad; rw [e3]; exact nbadn (by omega))⟩
    show PI (dS (az_up s 6 a.toNatClampNeg 1) a.toNatClampNeg D3.1 D3.2.1 (s 12 a.toNatClampNeg + D0.2.2 + D1.2.2 + D2.2.2 + D3.2.2)) (t + 1)
    have hor : ∀ j, D3.1 j = s 31 j ∨ D3.1 j = 0 := fun j => by
      rcases y1 j with q | q
      · rcases w1 j with q1 | q1
        · rcases v1 j with q2 | q2
          · rcases u1 j with q3 | q3
            · exact Or.inl (by rw [q, q1, q2, q3])
            · exact Or.inr (by rw [q, q1, q2, q3])
          · exact Or.inr (by rw [q, q1, q2])
        · exact Or.inr (by rw [q, q1])
      · exact Or.inr q
    have hz : ∀ j, j < nl → s 19 (s 29 j).toNatClampNeg = a → D3.1 j = 0 := fun j hj hc => by
      have ho := (q6 j hj).2.1
      obtain ⟨o1, o2⟩ := az_in_k ho
      have o4 : (s 30 j).toNatClampNeg = 0 ∨ (s 30 j).toNatClampNeg = 1 ∨ (s 30 j).toNatClampNeg = 2 ∨ (s 30 j).toNatClampNeg = 3 := by omega
      have st : ∀ {x y : Int32}, (x = y ∨ x = 0) → y = 0 → x = 0 := fun h hy => by
        rcases h with h | h
        · rw [h, hy]
        · exact h
      rcases o4 with o4 | o4 | o4 | o4 <;> rw [o4] at o2
      · exact st (y1 j) (st (w1 j) (st (v1 j) (u2 j hj hc o2)))
      · exact st (y1 j) (st (w1 j) (v2 j hj hc o2))
      · exact st (y1 j) (w2 j hj hc o2)
      · exact y2 j hj hc o2
    have hb3 := or_bd (nl := nl) hor hlf
    have hle : ∀ j, j < nl → (D3.1 j).toInt ≤ (s 31 j).toInt := fun j hj => by
      rcases hor j with q | q
      · rw [q]; exact Int.le_refl _
      · rw [q]; exact (hlf j hj).1
    obtain ⟨W, hW⟩ : ∃ W, W = s 12 a.toNatClampNeg + D0.2.2 + D1.2.2 + D2.2.2 + D3.2.2 := ⟨_, rfl⟩
    rw [← hW]
    have eop : ∀ p, p < 40 → dS (az_up s 6 a.toNatClampNeg 1) a.toNatClampNeg D3.1 D3.2.1 W (112 + p) = s (112 + p) := fun p hp => by
      unfold dS
      simp (disch := omega) only [az_up_ne, az_set_ne]
    have e6 : dS (az_up s 6 a.toNatClampNeg 1) a.toNatClampNeg D3.1 D3.2.1 W 6 = upd (s 6) a.toNatClampNeg 1 := by simp [dSe, az_upe]
    have e12 : dS (az_up s 6 a.toNatClampNeg 1) a.toNatClampNeg D3.1 D3.2.1 W 12 = upd (s 12) a.toNatClampNeg W := by simp [dSe, az_upe]
    have e13 : dS (az_up s 6 a.toNatClampNeg 1) a.toNatClampNeg D3.1 D3.2.1 W 13 = upd (s 13) a.toNatClampNeg D3.2.1 := by simp [dSe, az_upe]
    have e31 : dS (az_up s 6 a.toNatClampNeg 1) a.toNatClampNeg D3.1 D3.2.1 W 31 = D3.1 := by simp [dSe]
    have fr0 : ∀ r, (r ≠ 6 ∧ r ≠ 12 ∧ r ≠ 13 ∧ r ≠ 31) → dS (az_up s 6 a.toNatClampNeg 1) a.toNatClampNeg D3.1 D3.2.1 W r = s r := fun r hr => by simp [dSe, az_upe, hr.1, hr.2.1, hr.2.2.1, hr.2.2.2]
    generalize dS (az_up s 6 a.toNatClampNeg 1) a.toNatClampNeg D3.1 D3.2.1 W = s' at *
    refine ⟨mo, nc, nl, ng, np, ⟨⟨⟨by rw [fr0 0 (by decide)]; exact n1, n3⟩, ⟨by rw [fr0 18 (by decide)]; exact n4, n6⟩, ⟨by rw [fr0 28 (by decide)]; exact n7, n9⟩, ⟨by rw [fr0 36 (by decide)]; exact n10, n12⟩, ⟨by rw [fr0 106 (by decide)]; exact n13, n15⟩⟩, fr_ebar (fr0 40 (by decide)) q2, fr_vld (fr0 2 (by decide)) (fr0 3 (by decide)) q3, fun c hc => ?_, fr_vcd (fr0 19 (by decide)) (fr0 20 (by decide)) (fr0 21 (by decide)) (fr0 22 (by decide)) (fr0 24 (by decide)) (fr0 26 (by decide)) (fr0 27 (by decide)) q5, az_vlt_t (vlt_left q6 (fun j hj => ?_) (fr0 29 (by decide)) (fr0 30 (by decide)) (fr0 32 (by decide)) (fr0 33 (by decide))), fr_vcp (fr0 37 (by decide)) (fr0 38 (by decide)) (fr0 39 (by decide)) q7, fr_vpy n15 (fr0 107 (by decide)) (fr0 109 (by decide)) eop q8⟩, fr_x1 (fr0 7 (by decide)) q9, fun j hj => ?_, fr_x3 (fr0 24 (by decide)) (fr0 29 (by decide)) (fr0 107 (by decide)) q11, fr_x4 (fr0 25 (by decide)) q12, fun j hj hd => ?_, fr_x6 (fr0 108 (by decide)) (fr0 109 (by decide)) q14, fr_x7 n15 (fr0 29 (by decide)) (fr0 107 (by decide)) eop q15, fun c hc => ?_, fun j hj => ?_⟩
    · rw [e6, upde]
      split
      · exact Or.inr rfl
      · exact q4 c hc
    · rw [e31]
      have := hb3 j hj
      omega
    · rw [fr0 32 (by decide), fr0 33 (by decide), e31]
      refine ⟨(q10 j hj).1, fun hq => (q10 j hj).2 ?_⟩
      have := hle j hj
      omega
    · rw [e6, fr0 19 (by decide), fr0 29 (by decide), upde] at hd
      rw [e31]
      by_cases q : (s 19 (s 29 j).toNatClampNeg).toNatClampNeg = a.toNatClampNeg
      · have hc := (az_in_k (q5.1 _ (az_in_k (q6 j hj).1).1).1.1).2
        exact hz j hj (by rw [hc, q, ← k2])
      · rw [if_neg q] at hd
        have h0 := q13 j hj hd
        rcases hor j with q1 | q1
        · rw [q1, h0]
        · exact q1
    · have h0 := q16 c hc
      have a0 := u5 (nI c)
      have a1 := v5 (nI c)
      have a2 := w5 (nI c)
      have a3 := y5 (nI c)
      dsimp only at a0
      have e1 : lft s' nl (nI c) = sm (fun j => decide (s 19 (s 29 j).toNatClampNeg = nI c)) D3.1 nl := by unfold lft; rw [e31, fr0 19 (by decide), fr0 29 (by decide)]
      have e2 : ntt s' np (nI c) = ntt s np (nI c) := by unfold ntt; rw [fr0 19 (by decide), fr0 107 (by decide), fr0 109 (by decide)]
      have e3 : lft s nl (nI c) = sm (fun j => decide (s 19 (s 29 j).toNatClampNeg = nI c)) (s 31) nl := rfl
      rw [e1, e2, fr0 10 (by decide), fr0 11 (by decide), fr0 15 (by decide), fr0 16 (by decide), fr0 17 (by decide), fr0 8 (by decide), fr0 9 (by decide), e12, e13, upde, upde]
      rw [e3] at h0
      by_cases q : a = nI c
      · have qt : c = a.toNatClampNeg := by rw [q, nI_clamp (by omega)]
        rw [if_pos q, if_pos q] at a0 a1 a2 a3
        rw [if_pos qt, if_pos qt, hW]
        subst qt
        exact die_ring a0 a1 a2 a3 h0
      · have qt : ¬ c = a.toNatClampNeg := fun h => q (by rw [h]; exact k2)
        rw [if_neg q, if_neg q] at a0 a1 a2 a3
        rw [if_neg qt, if_neg qt]
        exact die_rin0 a0 a1 a2 a3 h0
    · have u := q17 j hj
      have := hle j hj
      rw [e31, fb_si_cong (g := fun p => (s (112 + p) j).toInt) (fun p hp => by rw [eop p (by omega)])]
      omega
  · rw [if_neg h]
    exact OKq H0
end
