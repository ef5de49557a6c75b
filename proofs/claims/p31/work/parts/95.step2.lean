/-! each call keeps the invariant: lots are added -/
section
variable {s s' : St} {mo nc nl ng np t k : Nat} {cd co og bg en : Int32}
theorem lft_add (h19 : ∀ j, j < nl → s' 19 (s 29 j).toNatClampNeg = s 19 (s 29 j).toNatClampNeg) (e29 : s' 29 = upd (s 29) nl cd) (e31 : s' 31 = upd (s 31) nl co) (x : Int32) : lft s' (nl + 1) x = lft s nl x + (if s' 19 cd.toNatClampNeg = x then co else 0) := by
  unfold lft
  rw [sm_s, e29, e31]
  have e : sm (fun j => decide (s' 19 (upd (s 29) nl cd j).toNatClampNeg = x)) (upd (s 31) nl co) nl = sm (fun j => decide (s 19 (s 29 j).toNatClampNeg = x)) (s 31) nl := sm_cg fun j hj => by
    rw [up_ne9 (by omega), up_ne9 (by omega), h19 j hj]
  rw [e, up_eq9, up_eq9]
  simp only [decide_eq_true_eq]
theorem ntt_cg (h19 : ∀ p, p < np → s' 19 (s 107 p).toNatClampNeg = s 19 (s 107 p).toNatClampNeg) (e107 : s' 107 = s 107) (e109 : s' 109 = s 109) (x : Int32) : ntt s' np x = ntt s np x := by
  unfold ntt
  rw [e107, e109]
  exact sm_cg fun p hp => by rw [h19 p hp]
theorem x8_add (h : x8 nl np s) (h19l : ∀ j, j < nl → s' 19 (s 29 j).toNatClampNeg = s 19 (s 29 j).toNatClampNeg) (h19p : ∀ p, p < np → s' 19 (s 107 p).toNatClampNeg = s 19 (s 107 p).toNatClampNeg) (e29 : s' 29 = upd (s 29) nl cd) (e31 : s' 31 = upd (s 31) nl co) (e107 : s' 107 = s 107) (e109 : s' 109 = s 109) (e10 : s' 10 = s 10) (e11 : s' 11 = s 11) (e12 : s' 12 = s 12) (e13 : s' 13 = s 13) (e15 : s' 15 = s 15) (e16 : s' 16 = s 16) (e17 : s' 17 = s 17) (h89 : ∀ ch, ch < 4 → s' 8 ch + s' 9 ch = s 8 ch + s 9 ch + (if s' 19 cd.toNatClampNeg = nI ch then co else 0)) : x8 (nl + 1) np s' := fun ch hc => by
  have := h ch hc
  rw [lft_add h19l e29 e31, ntt_cg h19p e107 e109, e10, e11, e12, e13, e15, e16, e17, h89 ch hc]
  grind
theorem h89_8 {ch : Nat} (hk : s' 19 cd.toNatClampNeg = nI k) (hk4 : k < 4) (e8 : s' 8 = upd (s 8) k (s 8 k + co)) (e9 : s' 9 = s 9) (hc : ch < 4) : s' 8 ch + s' 9 ch = s 8 ch + s 9 ch + (if s' 19 cd.toNatClampNeg = nI ch then co else 0) := by
  rw [e8, e9, upde, hk]
  by_cases h : ch = k
  · subst h
    rw [if_pos rfl, if_pos rfl]
    grind
  · rw [if_neg h, if_neg (by rw [bz_eq (by omega) (by omega)]; omega)]
    grind
theorem h89_9 {ch : Nat} (hk : s' 19 cd.toNatClampNeg = nI k) (hk4 : k < 4) (e8 : s' 8 = s 8) (e9 : s' 9 = upd (s 9) k (s 9 k + co)) (hc : ch < 4) : s' 8 ch + s' 9 ch = s 8 ch + s 9 ch + (if s' 19 cd.toNatClampNeg = nI ch then co else 0) := by
  rw [e8, e9, upde, hk]
  by_cases h : ch = k
  · subst h
    rw [if_pos rfl, if_pos rfl]
    grind
  · rw [if_neg h, if_neg (by rw [bz_eq (by omega) (by omega)]; omega)]
    grind
theorem x2_add (h : x2 mo nl s) (hen : en = -1 ∨ (mo : Int) < en.toInt) (e31 : s' 31 = upd (s 31) nl co) (e32 : s' 32 = upd (s 32) nl (nI mo)) (e33 : s' 33 = upd (s 33) nl en) : x2 mo (nl + 1) s' := fun j hj => by
  rw [e31, e32, e33, upde, upde, upde]
  by_cases hjn : j = nl
  · rw [if_pos hjn, if_pos hjn, if_pos hjn]
    exact ⟨⟨mo, rfl, Nat.le_refl _⟩, fun _ => hen⟩
  · rw [if_neg hjn, if_neg hjn, if_neg hjn]
    exact h j (by omega)
theorem x3_add (h : x3 nl np s) (hl : ∀ j, j < nl → s' 24 (s 29 j).toNatClampNeg = s 24 (s 29 j).toNatClampNeg) (hp : ∀ p, p < np → s' 24 (s 107 p).toNatClampNeg = s 24 (s 107 p).toNatClampNeg) (hc : s' 24 cd.toNatClampNeg ≠ 2) (e29 : s' 29 = upd (s 29) nl cd) (e107 : s' 107 = s 107) : x3 (nl + 1) np s' := by
  refine ⟨fun j hj => ?_, fun p hq => ?_⟩
  · rw [e29, upde]
    by_cases hjn : j = nl
    · rw [if_pos hjn]; exact hc
    · rw [if_neg hjn, hl j (by omega)]; exact h.1 j (by omega)
  · rw [e107, hp p hq]; exact h.2 p hq
theorem x4_up (h : x4 mo nc s) {v : Int32} (hv : v = nI mo) (e25 : s' 25 = upd (s 25) k v) : x4 mo nc s' := fun j hj => by
  rw [e25, upde]
  split
  · exact ⟨mo, hv, Nat.le_refl _⟩
  · exact h j hj
theorem x4_add (h : x4 mo nc s) {v : Int32} (hv : v = nI mo) (e25 : s' 25 = upd (s 25) nc v) : x4 mo (nc + 1) s' := fun j hj => by
  rw [e25, upde]
  split
  · exact ⟨mo, hv, Nat.le_refl _⟩
  · exact h j (by omega)
theorem x5_add (h : x5 nl s) (h19 : ∀ j, j < nl → s' 19 (s 29 j).toNatClampNeg = s 19 (s 29 j).toNatClampNeg) (e6 : s' 6 = s 6) (hc : s 6 (s' 19 cd.toNatClampNeg).toNatClampNeg = 0) (e29 : s' 29 = upd (s 29) nl cd) (e31 : s' 31 = upd (s 31) nl co) : x5 (nl + 1) s' := fun j hj hd => by
  rw [e29, e6, upde] at hd
  rw [e31, upde]
  by_cases hjn : j = nl
  · rw [if_pos hjn] at hd
    exact absurd hc hd
  · rw [if_neg hjn, h19 j (by omega)] at hd
    rw [if_neg hjn]
    exact h j (by omega) hd
theorem x7_add (h : x7 nl np s) (hn : np ≤ 40) (hz : ∀ p, p < np → s (112 + p) nl = 0) (e29 : s' 29 = upd (s 29) nl cd) (e107 : s' 107 = s 107) (ep : ∀ p, p < 40 → s' (112 + p) = s (112 + p)) : x7 (nl + 1) np s' := fun p hp j hj ho => by
  rw [ep p (by omega)] at ho
  rw [e29, e107, upde]
  by_cases hjn : j = nl
  · subst hjn; exact absurd (hz p hp) ho
  · rw [if_neg hjn]; exact h p hp j (by omega) ho
theorem x9_add (h : x9 nl np s) (hn : np ≤ 40) (hz : ∀ p, p < np → s (112 + p) nl = 0) (hco : co.toInt ≤ 1000) (e31 : s' 31 = upd (s 31) nl co) (ep : ∀ p, p < 40 → s' (112 + p) = s (112 + p)) : x9 (nl + 1) np s' := fun j hj => by
  rw [e31, upde, fb_si_cong (g := fun p => (s (112 + p) j).toInt) (fun p hp => by rw [ep p (by omega)])]
  by_cases hjn : j = nl
  · subst hjn
    rw [if_pos rfl, fb_si_cong (g := fun _ => (0 : Int)) (fun p hp => by rw [hz p hp]; rfl)]
    have : ∀ q, fb_si (fun _ => (0 : Int)) q = 0 := fun q => by
      induction q with
      | zero => rfl
      | succ q ih => show fb_si (fun _ => (0 : Int)) q + 0 = 0; omega
    rw [this]
    omega
  · rw [if_neg hjn]; exact h j (by omega)
theorem vpy_add {nc' nl' : Nat} (h : az_vpy nc nl np s) (h1 : nc ≤ nc') (h2 : nl ≤ nl') (hn : np ≤ 40) (e107 : s' 107 = s 107) (e109 : s' 109 = s 109) (ep : ∀ p, p < 40 → s' (112 + p) = s (112 + p)) : az_vpy nc' nl' np s' := fun p hp => by
  rw [e107, e109, ep p (by omega)]
  obtain ⟨a1, n, a2, a3, a4, a5⟩ := h p hp
  exact ⟨az_in_w a1 h1, n, a2, a3, fun j hj => ⟨(a4 j hj).1, fun hq => (a4 j hj).2 (by omega)⟩, a5⟩
theorem life_en {L : Int32} (h : az_life L) (hm : mo ≤ 240) (he : (if L = 0 then -1 else nI mo + L) = en) : ∃ e : Nat, en = -1 ∨ (en = nI e ∧ mo < e ∧ e ≤ 300) := by
  by_cases h0 : L = 0
  · rw [if_pos h0] at he
    exact ⟨0, Or.inl he.symm⟩
  · rw [if_neg h0] at he
    obtain ⟨m, h1, h2, h3⟩ := bz_rg (a := 6) (n := 60) (by omega) (h.resolve_left h0) (by omega)
    refine ⟨mo + m, Or.inr ⟨?_, by omega, by omega⟩⟩
    rw [← he, h3, bz_add]
theorem en_gt {e : Nat} (h : en = -1 ∨ (en = nI e ∧ mo < e ∧ e ≤ 300)) : en = -1 ∨ (mo : Int) < en.toInt := by
  rcases h with h | ⟨h1, h2, h3⟩
  · exact Or.inl h
  · right
    rw [h1, nI_toInt (by omega)]
    omega
theorem vpy_z (h : az_vpy nc nl np s) (hn : nl < 60) : ∀ p, p < np → s (112 + p) nl = 0 := fun p hp => by
  obtain ⟨-, n, -, -, h4, -⟩ := h p hp
  exact (h4 nl hn).2 (Nat.le_refl _)
theorem bal_nn (H : PA s mo nc nl ng np t) (x : Int32) : balS s x ≠ bad := by
  have hn := H.1.1.2.2.1.2
  rw [balS_sm H.1.1.2.2.1.1 hn]
  have hb : nl * 1000 < 2 ^ 31 := by have : nl * 1000 ≤ 60 * 1000 := Nat.mul_le_mul_right _ hn; omega
  exact nbad (sm_bd (B := 1000) (fun j hj => PA_left H j hj) hb).1
end
section
variable {s : St} {t : Nat} {a b e f : Int32}
set_option maxHeartbeats 1000000 in
theorem S3 (H : PI s t) : OKs s t (f_load s a b e) := by
  have H0 := H
  obtain ⟨mo, nc, nl, ng, np, ⟨⟨⟨n1, n3⟩, ⟨n4, n6⟩, ⟨n7, n9⟩, ⟨n10, n12⟩, ⟨n13, n15⟩⟩, q2, q3, q4, q5, q6, q7, q8⟩, q9, q10, q11, q12, q13, q14, q15, q16, q17⟩ := H
  have enc : ncN s = nc := by unfold ncN; rw [n4, nI_clamp (by omega)]
  have enl : nlN s = nl := by unfold nlN; rw [n7, nI_clamp (by omega)]
  unfold f_load
  rw [enc, enl]
  by_cases h : az_in a nc = true ∧ (1 ≤ b ∧ b ≤ 500) ∧ s 24 a.toNatClampNeg ≠ 2 ∧ s 6 (s 19 a.toNatClampNeg).toNatClampNeg = 0 ∧ nl < 60
  · rw [if_pos h]
    obtain ⟨h1, h2, h3, h4, h5⟩ := h
    obtain ⟨k1, k2⟩ := az_in_k h1
    obtain ⟨m, m1, m2, m3⟩ := bz_rg (a := 1) (n := 500) (by omega) h2 (by omega)
    have hb : 0 ≤ b.toInt ∧ b.toInt ≤ 1000 := by rw [m3, nI_toInt (by omega)]; omega
    obtain ⟨⟨c1, c2⟩, c3, c4, c5, c6⟩ := q5.1 _ k1
    obtain ⟨j1, j2⟩ := az_in_k c1
    have hz := vpy_z q8 h5
    by_cases h0 : e = 0
    · rw [if_pos h0]
      have hP : ∃ mo nc nl ng np, PA (az_up (addB s a b) 25 a.toNatClampNeg (s 0 6)) mo nc nl ng np (t + 1) := by
        unfold addB addLot
        rw [enl]
        generalize hen : (if s 21 a.toNatClampNeg = 0 then -1 else s 0 6 + s 21 a.toNatClampNeg) = en
        rw [n1] at hen
        obtain ⟨ee, hee⟩ := life_en c3 n3 hen
        exact ⟨mo, nc, nl + 1, ng, np, ⟨⟨⟨by simp [az_upe, az_sete, upde, n1], n3⟩, ⟨by simp [az_upe, az_sete, upde, n4], n6⟩, ⟨by simp [az_upe, az_sete, upde], by omega⟩, ⟨by simp [az_upe, az_sete, upde, n10], n12⟩, ⟨by simp [az_upe, az_sete, upde, n13], n15⟩⟩, fr_ebar (by simp [az_upe, az_sete]) q2, fr_vld (by simp [az_upe, az_sete]) (by simp [az_upe, az_sete]) q3, fr_vch (by simp [az_upe, az_sete]) q4, fr_vcd (by simp [az_upe, az_sete]) (by simp [az_upe, az_sete]) (by simp [az_upe, az_sete]) (by simp [az_upe, az_sete]) (by simp [az_upe, az_sete]) (by simp [az_upe, az_sete]) (by simp [az_upe, az_sete]) q5, az_vlt_t (vlt_add (cd := a) (og := 0) (co := b) (bg := s 0 6) (b := mo) (en := en) (e := ee) q6 (Nat.le_refl _) h1 (by decide) hb n1 hee (by simp [az_upe]) (by simp [az_upe]) (by simp [az_upe]) (by simp [az_upe]) (by simp [az_upe])), fr_vcp (by simp [az_upe, az_sete]) (by simp [az_upe, az_sete]) (by simp [az_upe, az_sete]) q7, vpy_add q8 (Nat.le_refl _) (Nat.le_succ _) n15 (by simp [az_upe]) (by simp [az_upe]) (fun p9 h9 => by simp (disch := omega) only [az_up_ne, az_set_ne])⟩, fr_x1 (by simp [az_upe, az_sete]) q9, x2_add (co := b) (en := en) q10 (en_gt hee) (by simp [az_upe]) (by simp [az_upe, n1]) (by simp [az_upe]), x3_add (cd := a) q11 (fun _ _ => by simp [az_upe]) (fun _ _ => by simp [az_upe]) (by simp [az_upe, h3]) (by simp [az_upe]) (by simp [az_upe]), x4_up (k := a.toNatClampNeg) q12 n1 (by simp [az_upe]), x5_add (cd := a) (co := b) q13 (fun _ _ => by simp [az_upe]) (by simp [az_upe]) (by simp [az_upe, h4]) (by simp [az_upe]) (by simp [az_upe]), fr_x6 (by simp [az_upe, az_sete]) (by simp [az_upe, az_sete]) q14, x7_add (cd := a) q15 n15 hz (by simp [az_upe]) (by simp [az_upe]) (fun p9 h9 => by simp (disch := omega) only [az_up_ne, az_set_ne]), x8_add (cd := a) (co := b) q16 (fun _ _ => by simp [az_upe]) (fun _ _ => by simp [az_upe]) (by simp [az_upe]) (by simp [az_upe]) (by simp [az_upe]) (by simp [az_upe]) (by simp [az_upe]) (by simp [az_upe]) (by simp [az_upe]) (by simp [az_upe]) (by simp [az_upe]) (by simp [az_upe]) (by simp [az_upe]) (fun _ hc => h89_8 (k := (s 19 a.toNatClampNeg).toNatClampNeg) (by simp [az_upe, ← j2]) j1 (by simp [az_upe]) (by simp [az_upe]) hc), x9_add (co := b) q17 n15 hz hb.2 (by simp [az_upe]) (fun p9 h9 => by simp (disch := omega) only [az_up_ne, az_set_ne])⟩
      obtain ⟨_, _, _, _, _, hP⟩ := hP
      exact ⟨⟨_, _, _, _, _, hP⟩, fun hb => absurd hb (bal_nn hP a)⟩
    · rw [if_neg h0]
      have hP : ∃ mo nc nl ng np, PA (az_up (addG s a 3 b 6) 25 a.toNatClampNeg (s 0 6)) mo nc nl ng np (t + 1) := by
        unfold addG addLot
        rw [enl]
        generalize hen : s 0 6 + 6 = en
        have hee : en = -1 ∨ (en = nI (mo + 6) ∧ mo < mo + 6 ∧ mo + 6 ≤ 300) := Or.inr ⟨by rw [← hen, n1, show (6 : Int32) = nI 6 from rfl, bz_add], by omega, by omega⟩
        exact ⟨mo, nc, nl + 1, ng, np, ⟨⟨⟨by simp [az_upe, az_sete, upde, n1], n3⟩, ⟨by simp [az_upe, az_sete, upde, n4], n6⟩, ⟨by simp [az_upe, az_sete, upde], by omega⟩, ⟨by simp [az_upe, az_sete, upde, n10], n12⟩, ⟨by simp [az_upe, az_sete, upde, n13], n15⟩⟩, fr_ebar (by simp [az_upe, az_sete]) q2, fr_vld (by simp [az_upe, az_sete]) (by simp [az_upe, az_sete]) q3, fr_vch (by simp [az_upe, az_sete]) q4, fr_vcd (by simp [az_upe, az_sete]) (by simp [az_upe, az_sete]) (by simp [az_upe, az_sete]) (by simp [az_upe, az_sete]) (by simp [az_upe, az_sete]) (by simp [az_upe, az_sete]) (by simp [az_upe, az_sete]) q5, az_vlt_t (vlt_add (cd := a) (og := 3) (co := b) (bg := s 0 6) (b := mo) (en := en) (e := mo + 6) q6 (Nat.le_refl _) h1 (by decide) hb n1 hee (by simp [az_upe]) (by simp [az_upe]) (by simp [az_upe]) (by simp [az_upe]) (by simp [az_upe])), fr_vcp (by simp [az_upe, az_sete]) (by simp [az_upe, az_sete]) (by simp [az_upe, az_sete]) q7, vpy_add q8 (Nat.le_refl _) (Nat.le_succ _) n15 (by simp [az_upe]) (by simp [az_upe]) (fun p9 h9 => by simp (disch := omega) only [az_up_ne, az_set_ne])⟩, fr_x1 (by simp [az_upe, az_sete]) q9, x2_add (co := b) (en := en) q10 (en_gt hee) (by simp [az_upe]) (by simp [az_upe, n1]) (by simp [az_upe]), x3_add (cd := a) q11 (fun _ _ => by simp [az_upe]) (fun _ _ => by simp [az_upe]) (by simp [az_upe, h3]) (by simp [az_upe]) (by simp [az_upe]), x4_up (k := a.toNatClampNeg) q12 n1 (by simp [az_upe]), x5_add (cd := a) (co := b) q13 (fun _ _ => by simp [az_upe]) (by simp [az_upe]) (by simp [az_upe, h4]) (by simp [az_upe]) (by simp [az_upe]), fr_x6 (by simp [az_upe, az_sete]) (by simp [az_upe, az_sete]) q14, x7_add (cd := a) q15 n15 hz (by simp [az_upe]) (by simp [az_upe]) (fun p9 h9 => by simp (disch := omega) only [az_up_ne, az_set_ne]), x8_add (cd := a) (co := b) q16 (fun _ _ => by simp [az_upe]) (fun _ _ => by simp [az_upe]) (by simp [az_upe]) (by simp [az_upe]) (by simp [az_upe]) (by simp [az_upe]) (by simp [az_upe]) (by simp [az_upe]) (by simp [az_upe]) (by simp [az_upe]) (by simp [az_upe]) (by simp [az_upe]) (by simp [az_upe]) (fun _ hc => h89_9 (k := (s 19 a.toNatClampNeg).toNatClampNeg) (by simp [az_upe, ← j2]) j1 (by simp [az_upe]) (by simp [az_upe]) hc), x9_add (co := b) q17 n15 hz hb.2 (by simp [az_upe]) (fun p9 h9 => by simp (disch := omega) only [az_up_ne, az_set_ne])⟩
      obtain ⟨_, _, _, _, _, hP⟩ := hP
      exact ⟨⟨_, _, _, _, _, hP⟩, fun hb => absurd hb (bal_nn hP a)⟩
  · rw [if_neg h]
    exact OKq H0
set_option maxHeartbeats 1000000 in
theorem S12 (H : PI s t) : OKs s t (f_conv s a b) := by
  have H0 := H
  obtain ⟨mo, nc, nl, ng, np, ⟨⟨⟨n1, n3⟩, ⟨n4, n6⟩, ⟨n7, n9⟩, ⟨n10, n12⟩, ⟨n13, n15⟩⟩, q2, q3, q4, q5, q6, q7, q8⟩, q9, q10, q11, q12, q13, q14, q15, q16, q17⟩ := H
  have enc : ncN s = nc := by unfold ncN; rw [n4, nI_clamp (by omega)]
  have enl : nlN s = nl := by unfold nlN; rw [n7, nI_clamp (by omega)]
  unfold f_conv
  rw [enc, enl]
  by_cases h : az_in a nc = true ∧ (5 ≤ b ∧ b ≤ 500) ∧ b - b / 5 * 5 = 0 ∧ s 24 a.toNatClampNeg = 0 ∧ s 6 (s 19 a.toNatClampNeg).toNatClampNeg = 0 ∧ b ≤ mkS s a true - s 27 a.toNatClampNeg ∧ nl < 60
  · rw [if_pos h]
    obtain ⟨h1, h2, -, h3, h4, -, h5⟩ := h
    have h3' : s 24 a.toNatClampNeg ≠ 2 := by rw [h3]; decide
    obtain ⟨k1, k2⟩ := az_in_k h1
    obtain ⟨m, m1, m2, m3⟩ := bz_rg (a := 5) (n := 500) (by omega) h2 (by omega)
    have eb : b / 5 = nI (m / 5) := by rw [m3, show (5 : Int32) = nI 5 from rfl, bz_div (by omega) (by omega)]
    generalize hco : b / 5 = co at *
    have hb : 0 ≤ co.toInt ∧ co.toInt ≤ 1000 := by rw [eb, nI_toInt (by omega)]; omega
    obtain ⟨⟨c1, c2⟩, c3, c4, c5, c6⟩ := q5.1 _ k1
    obtain ⟨j1, j2⟩ := az_in_k c1
    have hz := vpy_z q8 h5
    refine ⟨?_, fun hbb => absurd hbb (nbad hb.1)⟩
    have hu : nlN (az_up s 27 a.toNatClampNeg (s 27 a.toNatClampNeg + b)) = nl := enl
    unfold addG addLot
    rw [hu]
    have h06 : az_up s 27 a.toNatClampNeg (s 27 a.toNatClampNeg + b) 0 6 = s 0 6 := by simp [az_upe]
    have h19 : az_up s 27 a.toNatClampNeg (s 27 a.toNatClampNeg + b) 19 = s 19 := by simp [az_upe]
    have h9 : az_up s 27 a.toNatClampNeg (s 27 a.toNatClampNeg + b) 9 = s 9 := by simp [az_upe]
    dsimp only
    rw [h06, h19, h9]
    generalize hen : s 0 6 + 12 = en
    have hee : en = -1 ∨ (en = nI (mo + 12) ∧ mo < mo + 12 ∧ mo + 12 ≤ 300) := Or.inr ⟨by rw [← hen, n1, show (12 : Int32) = nI 12 from rfl, bz_add], by omega, by omega⟩
    exact ⟨mo, nc, nl + 1, ng, np, ⟨⟨⟨by simp [az_upe, az_sete, upde, n1], n3⟩, ⟨by simp [az_upe, az_sete, upde, n4], n6⟩, ⟨by simp [az_upe, az_sete, upde], by omega⟩, ⟨by simp [az_upe, az_sete, upde, n10], n12⟩, ⟨by simp [az_upe, az_sete, upde, n13], n15⟩⟩, fr_ebar (by simp [az_upe, az_sete]) q2, fr_vld (by simp [az_upe, az_sete]) (by simp [az_upe, az_sete]) q3, fr_vch (by simp [az_upe, az_sete]) q4, vcd_up q5 k1 c5 c6 (by simp [az_upe]) (by simp [az_upe]) (by simp [az_upe]) (by simp [az_upe]) (by simp [az_upe, upd_same]) (by simp [az_upe, upd_same]) (fun i hi => by simp [az_upe, upde]; omega), az_vlt_t (vlt_add (cd := a) (og := 2) (co := co) (bg := s 0 6) (b := mo) (en := en) (e := mo + 12) q6 (Nat.le_refl _) h1 (by decide) hb n1 hee (by simp [az_upe]) (by simp [az_upe]) (by simp [az_upe]) (by simp [az_upe]) (by simp [az_upe])), fr_vcp (by simp [az_upe, az_sete]) (by simp [az_upe, az_sete]) (by simp [az_upe, az_sete]) q7, vpy_add q8 (Nat.le_refl _) (Nat.le_succ _) n15 (by simp [az_upe]) (by simp [az_upe]) (fun p9 h9 => by simp (disch := omega) only [az_up_ne, az_set_ne])⟩, fr_x1 (by simp [az_upe, az_sete]) q9, x2_add (co := co) (en := en) q10 (en_gt hee) (by simp [az_upe]) (by simp [az_upe, n1]) (by simp [az_upe]), x3_add (cd := a) q11 (fun _ _ => by simp [az_upe]) (fun _ _ => by simp [az_upe]) (by simp [az_upe, h3']) (by simp [az_upe]) (by simp [az_upe]), x4_up (k := a.toNatClampNeg) q12 n1 (by simp [az_upe]), x5_add (cd := a) (co := co) q13 (fun _ _ => by simp [az_upe]) (by simp [az_upe]) (by simp [az_upe, h4]) (by simp [az_upe]) (by simp [az_upe]), fr_x6 (by simp [az_upe, az_sete]) (by simp [az_upe, az_sete]) q14, x7_add (cd := a) q15 n15 hz (by simp [az_upe]) (by simp [az_upe]) (fun p9 h9 => by simp (disch := omega) only [az_up_ne, az_set_ne]), x8_add (cd := a) (co := co) q16 (fun _ _ => by simp [az_upe]) (fun _ _ => by simp [az_upe]) (by simp [az_upe]) (by simp [az_upe]) (by simp [az_upe]) (by simp [az_upe]) (by simp [az_upe]) (by simp [az_upe]) (by simp [az_upe]) (by simp [az_upe]) (by simp [az_upe]) (by simp [az_upe]) (by simp [az_upe]) (fun _ hc => h89_9 (k := (s 19 a.toNatClampNeg).toNatClampNeg) (by simp [az_upe, ← j2]) j1 (by simp [az_upe]) (by simp [az_upe]) hc), x9_add (co := co) q17 n15 hz hb.2 (by simp [az_upe]) (fun p9 h9 => by simp (disch := omega) only [az_up_ne, az_set_ne])⟩
  · rw [if_neg h]
    exact OKq H0
set_option maxHeartbeats 1000000 in
theorem S2 (H : PI s t) : OKs s t (f_sell s a b e) := by
  have H0 := H
  obtain ⟨mo, nc, nl, ng, np, ⟨⟨⟨n1, n3⟩, ⟨n4, n6⟩, ⟨n7, n9⟩, ⟨n10, n12⟩, ⟨n13, n15⟩⟩, q2, q3, q4, q5, q6, q7, q8⟩, q9, q10, q11, q12, q13, q14, q15, q16, q17⟩ := H
  have enc : ncN s = nc := by unfold ncN; rw [n4, nI_clamp (by omega)]
  have enl : nlN s = nl := by unfold nlN; rw [n7, nI_clamp (by omega)]
  unfold f_sell
  rw [enc, enl]
  by_cases h : az_in a 4 = true ∧ az_in b 3 = true ∧ (1 ≤ e ∧ e ≤ 500) ∧ s 6 a.toNatClampNeg = 0 ∧ nc < 12 ∧ nl < 60
  · rw [if_pos h]
    obtain ⟨h1, h2, h3, h4, h5, h6⟩ := h
    obtain ⟨k1, k2⟩ := az_in_k h1
    obtain ⟨b1, b2⟩ := az_in_k h2
    obtain ⟨m, m1, m2, m3⟩ := bz_rg (a := 1) (n := 500) (by omega) h3 (by omega)
    have hb : 0 ≤ e.toInt ∧ e.toInt ≤ 1000 := by rw [m3, nI_toInt (by omega)]; omega
    have hz := vpy_z q8 h6
    obtain ⟨v1, v2⟩ := q3 _ b1
    refine ⟨?_, fun hbb => absurd hbb (by show s 18 9 ≠ bad; rw [n4]; exact nbadn (by omega))⟩
    have hct : (s 18 9).toNatClampNeg = nc := by rw [n4, nI_clamp (by omega)]
    have hci : az_in (s 18 9) (nc + 1) = true := by rw [n4, az_in_nI (by omega)]; simp
    have hlt : ∀ j, j < nl → (s 29 j).toNatClampNeg ≠ nc := fun j hj => by have := (az_in_k (q6 j hj).1).1; omega
    have hpt : ∀ p, p < np → (s 107 p).toNatClampNeg ≠ nc := fun p hp => by have := (az_in_k (q8 p hp).1).1; omega
    have hu : nlN (newC s a b) = nl := by unfold nlN newC; simp [az_upe, n7]; exact nI_clamp (by omega)
    have h06 : newC s a b 0 6 = s 0 6 := by unfold newC; simp [az_upe]
    have h19 : newC s a b 19 nc = a := by unfold newC; simp [az_upe, enc, upde]
    have h21 : newC s a b 21 nc = s 2 b.toNatClampNeg := by unfold newC; simp [az_upe, enc, upde]
    have h8 : newC s a b 8 = s 8 := by unfold newC; simp [az_upe]
    unfold addB addLot
    dsimp only
    rw [hu, hct, h06, h19, h21, h8]
    unfold newC
    rw [enc]
    generalize hen : (if s 2 b.toNatClampNeg = 0 then -1 else s 0 6 + s 2 b.toNatClampNeg) = en
    rw [n1] at hen
    obtain ⟨ee, hee⟩ := life_en v1 n3 hen
    generalize hcd : s 18 9 = cd at *
    exact ⟨mo, nc + 1, nl + 1, ng, np, ⟨⟨⟨by simp [az_upe, az_sete, upde, n1], n3⟩, ⟨by simp [az_upe, az_sete, upde], by omega⟩, ⟨by simp [az_upe, az_sete, upde], by omega⟩, ⟨by simp [az_upe, az_sete, upde, n10], n12⟩, ⟨by simp [az_upe, az_sete, upde, n13], n15⟩⟩, fr_ebar (by simp [az_upe, az_sete]) q2, fr_vld (by simp [az_upe, az_sete]) (by simp [az_upe, az_sete]) q3, fr_vch (by simp [az_upe, az_sete]) q4, vcd_add (ch := a) (ld := b) (li := s 2 b.toNatClampNeg) (fe := s 3 b.toNatClampNeg) q5 h1 h2 v1 v2 (by simp [az_upe]) (by simp [az_upe]) (by simp [az_upe]) (by simp [az_upe]) (fun i => by simp [az_upe, upde]; intro hi; rw [hi, (q5.2 nc (Nat.le_refl _)).1]) (by simp [az_upe]) (by simp [az_upe]), az_vlt_t (vlt_add (cd := cd) (og := 0) (co := e) (bg := s 0 6) (b := mo) (en := en) (e := ee) q6 (Nat.le_succ _) hci (by decide) hb n1 hee (by simp [az_upe]) (by simp [az_upe]) (by simp [az_upe]) (by simp [az_upe]) (by simp [az_upe])), fr_vcp (by simp [az_upe, az_sete]) (by simp [az_upe, az_sete]) (by simp [az_upe, az_sete]) q7, vpy_add q8 (Nat.le_succ _) (Nat.le_succ _) n15 (by simp [az_upe]) (by simp [az_upe]) (fun p9 h9 => by simp (disch := omega) only [az_up_ne, az_set_ne])⟩, fr_x1 (by simp [az_upe, az_sete]) q9, x2_add (co := e) (en := en) q10 (en_gt hee) (by simp [az_upe]) (by simp [az_upe, n1]) (by simp [az_upe]), x3_add (cd := cd) q11 (fun j hj => by simp [az_upe, upde, hlt j hj]) (fun p hp => by simp [az_upe, upde, hpt p hp]) (by simp [az_upe, upde, hct]) (by simp [az_upe]) (by simp [az_upe]), x4_add q12 n1 (by simp [az_upe]), x5_add (cd := cd) (co := e) q13 (fun j hj => by simp [az_upe, upde, hlt j hj]) (by simp [az_upe]) (by simp [az_upe, upde, hct, h4]) (by simp [az_upe]) (by simp [az_upe]), fr_x6 (by simp [az_upe, az_sete]) (by simp [az_upe, az_sete]) q14, x7_add (cd := cd) q15 n15 hz (by simp [az_upe]) (by simp [az_upe]) (fun p9 h9 => by simp (disch := omega) only [az_up_ne, az_set_ne]), x8_add (cd := cd) (co := e) q16 (fun j hj => by simp [az_upe, upde, hlt j hj]) (fun p hp => by simp [az_upe, upde, hpt p hp]) (by simp [az_upe]) (by simp [az_upe]) (by simp [az_upe]) (by simp [az_upe]) (by simp [az_upe]) (by simp [az_upe]) (by simp [az_upe]) (by simp [az_upe]) (by simp [az_upe]) (by simp [az_upe]) (by simp [az_upe]) (fun _ hc => h89_8 (k := a.toNatClampNeg) (by simp [az_upe, upde, hct, ← k2]) k1 (by simp [az_upe]) (by simp [az_upe]) hc), x9_add (co := e) q17 n15 hz hb.2 (by simp [az_upe]) (fun p9 h9 => by simp (disch := omega) only [az_up_ne, az_set_ne])⟩
  · rw [if_neg h]
    exact OKq H0
end
