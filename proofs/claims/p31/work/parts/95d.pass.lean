/-! a month passes: the invariant stays -/
theorem due3 {o : Nat → Int32} {ld c0 ch : Nat} {y : Int32} (hl : ld < 3) (h0 : c0 < 4) (hc : ch < 4) : upd o (4 * ld + c0) (o (4 * ld + c0) + y) ch + upd o (4 * ld + c0) (o (4 * ld + c0) + y) (4 + ch) + upd o (4 * ld + c0) (o (4 * ld + c0) + y) (8 + ch) = o ch + o (4 + ch) + o (8 + ch) + (if c0 = ch then y else 0) := by
  by_cases h : c0 = ch
  · subst h
    rw [if_pos rfl]
    have hl3 : ld = 0 ∨ ld = 1 ∨ ld = 2 := by omega
    rcases hl3 with rfl | rfl | rfl
    · rw [show 4 * 0 + c0 = c0 by omega, up_eq9, up_ne9 (by omega), up_ne9 (by omega)]; grind
    · rw [show 4 * 1 + c0 = 4 + c0 by omega, up_eq9, up_ne9 (by omega), up_ne9 (by omega)]; grind
    · rw [show 4 * 2 + c0 = 8 + c0 by omega, up_eq9, up_ne9 (by omega), up_ne9 (by omega)]; grind
  · rw [if_neg h, up_ne9 (by omega), up_ne9 (by omega), up_ne9 (by omega)]; grind
def acP (A : St) (nl : Nat) (r : P4) (ch : Nat) : Int32 := sm (fun j => decide (A 19 (A 29 j).toNatClampNeg = nI ch)) r.1 nl + r.2.2.1 ch + r.2.2.2 ch + (r.2.1 ch + r.2.1 (4 + ch) + r.2.1 (8 + ch))
section
variable {A : St} {now : Int32} {nl cd k ch : Nat} {r : P4}
theorem pEs_ac (hk : k < nl) (hcd : cd < 2 ^ 31) (h19 : az_in (A 19 cd) 4 = true) (h20 : az_in (A 20 cd) 3 = true) (hc : ch < 4) : acP A nl (pEs A now cd k r) ch = acP A nl r ch := by
  obtain ⟨c1, c2⟩ := az_in_k h19
  obtain ⟨l1, l2⟩ := az_in_k h20
  unfold pEs
  by_cases h29 : A 29 k = nI cd
  · rw [if_pos h29]
    by_cases h33 : A 33 k = now
    · rw [if_pos h33]
      have hw : sm (fun j => decide (A 19 (A 29 j).toNatClampNeg = nI ch)) (upd r.1 k 0) nl = sm (fun j => decide (A 19 (A 29 j).toNatClampNeg = nI ch)) r.1 nl + (if (A 19 cd).toNatClampNeg = ch then 0 - r.1 k else 0) := by
        rw [sm_upd hk, h29, nI_clamp hcd]
        by_cases q : (A 19 cd).toNatClampNeg = ch
        · rw [if_pos q, if_pos (by rw [decide_eq_true_eq, c2, q])]
        · rw [if_neg q, if_neg (by rw [decide_eq_true_eq, c2, bz_eq (by omega) (by omega)]; exact q)]
      have hd := due3 (o := r.2.1) (y := r.1 k * A 23 cd / 100) l1 c1 hc
      unfold pEd
      by_cases ho : A 30 k = 0 ∨ A 30 k = 1
      · rw [if_pos ho]
        unfold acP
        dsimp only
        rw [hw, hd, upde]
        by_cases q : (A 19 cd).toNatClampNeg = ch
        · rw [if_pos q, if_pos q, if_pos q.symm, q]; grind
        · rw [if_neg q, if_neg q, if_neg (fun e => q e.symm)]; grind
      · rw [if_neg ho]
        unfold acP
        dsimp only
        rw [hw, upde]
        by_cases q : (A 19 cd).toNatClampNeg = ch
        · rw [if_pos q, if_pos q.symm, q]; grind
        · rw [if_neg q, if_neg (fun e => q e.symm)]; grind
    · rw [if_neg h33]
  · rw [if_neg h29]
theorem pFe_ac (hcd : cd < 2 ^ 31) (h19 : az_in (A 19 cd) 4 = true) (hc : ch < 4) : acP A nl (pFe A now nl cd r) ch = acP A nl r ch := by
  obtain ⟨c1, c2⟩ := az_in_k h19
  unfold pFe
  by_cases h12 : now - A 25 cd < 12
  · rw [if_pos h12]
  · rw [if_neg h12]
    obtain ⟨o1, o2⟩ := ordR_spec (lt := ltb (fun j => az_nv (A 33 j)) (A 30)) ltb_t ltb_tot (P := pOn (A 29) r.1 (nI cd)) (n := nl)
    have := sm_tk (w := fun j => decide (A 19 (A 29 j).toNatClampNeg = nI ch)) (W := decide (A 19 cd = nI ch)) (n := nl) (L := (ordR (ltb (fun j => az_nv (A 33 j)) (A 30)) (pOn (A 29) r.1 (nI cd)) nl).reverse) (g := r.1) (dr := fun _ => 0) (m := A 22 cd) (fun y hy => by
      obtain ⟨u1, u2⟩ := (o1 y).mp (List.mem_reverse.mp hy)
      unfold pOn at u2
      rw [decide_eq_true_eq] at u2
      exact ⟨u1, by rw [u2.1, nI_clamp hcd]⟩)
    unfold acP
    dsimp only
    rw [this, upde]
    by_cases q : (A 19 cd).toNatClampNeg = ch
    · rw [if_pos (show decide (A 19 cd = nI ch) = true from decide_eq_true (by rw [c2, q])), if_pos q.symm, q]; grind
    · rw [if_neg (show ¬ decide (A 19 cd = nI ch) = true by rw [decide_eq_true_eq, c2, bz_eq (by omega) (by omega)]; exact q), if_neg (fun e => q e.symm)]; grind
theorem pEs_1 : (pEs A now cd k r).1 = (if A 29 k = nI cd ∧ A 33 k = now then upd r.1 k 0 else r.1) := by
  unfold pEs
  by_cases h : A 29 k = nI cd
  · by_cases h2 : A 33 k = now
    · rw [if_pos h, if_pos h2, if_pos ⟨h, h2⟩, pEd_or]
    · rw [if_pos h, if_neg h2, if_neg (fun q => h2 q.2)]
  · rw [if_neg h, if_neg (fun q => h q.1)]
theorem pFe_1 (h22 : 0 ≤ (A 22 cd).toInt) (h : ∀ j, j < nl → 0 ≤ (r.1 j).toInt) : ∀ j, j < nl → 0 ≤ ((pFe A now nl cd r).1 j).toInt ∧ ((pFe A now nl cd r).1 j).toInt ≤ (r.1 j).toInt := by
  intro j hj
  unfold pFe
  split
  · exact ⟨h j hj, Int.le_refl _⟩
  · obtain ⟨o1, o2⟩ := ordR_spec (lt := ltb (fun j => az_nv (A 33 j)) (A 30)) ltb_t ltb_tot (P := pOn (A 29) r.1 (nI cd)) (n := nl)
    obtain ⟨b1, b2, -⟩ := tk_bd (B := 0) (L := (ordR (ltb (fun j => az_nv (A 33 j)) (A 30)) (pOn (A 29) r.1 (nI cd)) nl).reverse) (g := r.1) (dr := fun _ => 0) (m := A 22 cd) (nd_rev (srt_nodup (lt := ltb (fun j => az_nv (A 33 j)) (A 30)) ltb_ir o2)) (fun x hx => h x ((o1 x).mp (List.mem_reverse.mp hx)).1) h22
    dsimp only
    by_cases q : j ∈ (ordR (ltb (fun j => az_nv (A 33 j)) (A 30)) (pOn (A 29) r.1 (nI cd)) nl).reverse
    · exact b2 j q
    · rw [b1 j q]; exact ⟨h j hj, Int.le_refl _⟩
theorem z_of {x y : Int32} (h : 0 ≤ x.toInt ∧ x.toInt ≤ y.toInt) (hy : y = 0) : x = 0 := by
  rw [hy, show (0 : Int32).toInt = 0 from rfl] at h
  apply Int32.toInt_inj.mp
  rw [show (0 : Int32).toInt = 0 from rfl]
  omega
theorem pass_iv {nc : Nat} {g : Nat → Int32} {r0 : P4} (hr0 : r0.1 = g) (hn : nc ≤ 12) (hA : ∀ cd, cd < nc → az_in (A 19 cd) 4 = true ∧ az_in (A 20 cd) 3 = true ∧ 0 ≤ (A 22 cd).toInt) (hg : ∀ j, j < nl → 0 ≤ (g j).toInt) (h29 : ∀ j, j < nl → az_in (A 29 j) nc = true) (R : P4) (hR : R = fd (fun cd r => pFe A now nl cd (fd (pEs A now cd) nl 0 r)) nc 0 r0) : (∀ j, j < nl → 0 ≤ (R.1 j).toInt ∧ (R.1 j).toInt ≤ (g j).toInt) ∧ (∀ j, j < nl → A 33 j = now → R.1 j = 0) ∧ ∀ ch, ch < 4 → acP A nl R ch = acP A nl r0 ch := by
  have key := fd_inv (n := nc) (h := fun cd r => pFe A now nl cd (fd (pEs A now cd) nl 0 r)) (Inv := fun cd r => (∀ j, j < nl → 0 ≤ (r.1 j).toInt ∧ (r.1 j).toInt ≤ (g j).toInt) ∧ (∀ j, j < nl → (A 29 j).toNatClampNeg < cd → A 33 j = now → r.1 j = 0) ∧ ∀ ch, ch < 4 → acP A nl r ch = acP A nl r0 ch) ?_ nc 0 r0 (Nat.zero_add _) ⟨fun j hj => by rw [hr0]; exact ⟨hg j hj, Int.le_refl _⟩, fun j hj hq => absurd hq (Nat.not_lt_zero _), fun _ _ => rfl⟩
  · rw [← hR] at key
    exact ⟨key.1, fun j hj hq => key.2.1 j hj (az_in_k (h29 j hj)).1 hq, key.2.2⟩
  · rintro cd r hcd ⟨i1, i2, i3⟩
    obtain ⟨a1, a2, a3⟩ := hA cd hcd
    have k2 := fd_inv (n := nl) (h := pEs A now cd) (Inv := fun k r => (∀ j, j < nl → 0 ≤ (r.1 j).toInt ∧ (r.1 j).toInt ≤ (g j).toInt) ∧ (∀ j, j < nl → (A 29 j).toNatClampNeg < cd → A 33 j = now → r.1 j = 0) ∧ (∀ j, j < k → A 29 j = nI cd → A 33 j = now → r.1 j = 0) ∧ ∀ ch, ch < 4 → acP A nl r ch = acP A nl r0 ch) ?_ nl 0 r (Nat.zero_add _) ⟨i1, i2, fun j hj => absurd hj (Nat.not_lt_zero _), i3⟩
    · obtain ⟨b1, b2, b3, b4⟩ := k2
      have hf := pFe_1 (now := now) (A := A) (nl := nl) (cd := cd) (r := fd (pEs A now cd) nl 0 r) a3 (fun j hj => (b1 j hj).1)
      refine ⟨fun j hj => ⟨(hf j hj).1, Int.le_trans (hf j hj).2 (b1 j hj).2⟩, fun j hj hq hq2 => ?_, fun ch hc => ?_⟩
      · refine z_of (hf j hj) ?_
        by_cases q : (A 29 j).toNatClampNeg < cd
        · exact b2 j hj q hq2
        · exact b3 j hj (by rw [(az_in_k (h29 j hj)).2]; congr 1; omega) hq2
      · show acP A nl (pFe A now nl cd (fd (pEs A now cd) nl 0 r)) ch = _
        rw [pFe_ac (by omega) a1 hc, b4 ch hc]
    · rintro k r hk ⟨b1, b2, b3, b4⟩
      have hz : ∀ j, r.1 j = 0 → (pEs A now cd k r).1 j = 0 := fun j hj => by
        rw [pEs_1]
        split
        · rw [upde]
          split
          · rfl
          · exact hj
        · exact hj
      refine ⟨fun j hj => ?_, fun j hj hq hq2 => hz j (b2 j hj hq hq2), fun j hj hq hq2 => ?_, fun ch hc => ?_⟩
      · rw [pEs_1]
        split
        · rw [upde]
          split
          · exact ⟨Int.le_refl _, hg j hj⟩
          · exact b1 j hj
        · exact b1 j hj
      · by_cases e : j = k
        · subst e
          rw [pEs_1, if_pos ⟨hq, hq2⟩, up_eq9]
        · exact hz j (b3 j (by omega) hq hq2)
      · rw [pEs_ac hk (by omega) a1 a2 hc, b4 ch hc]
end
section
variable {s : St} {mo nc nl ng np t : Nat}
theorem PA_kr (H : PA s mo nc nl ng np t) : PA (kr s) mo nc nl ng np t := by
  obtain ⟨h, q9, q10, q11, q12, q13, q14, q15, q16, q17⟩ := H
  have n15 := h.1.2.2.2.2.2
  refine ⟨PC_kr.mpr h, fr_x1 rfl q9, fr_x2 rfl rfl rfl q10, fr_x3 rfl rfl rfl q11, fr_x4 rfl q12, fr_x5 rfl rfl rfl rfl q13, fr_x6 rfl rfl q14, fr_x7 (s := s) n15 rfl rfl (fun p hp => kr_op hp) q15, fun ch hc => ?_, fr_x9 (s := s) n15 rfl (fun p hp => kr_op hp) q17⟩
  have h4 : ch = 0 ∨ ch = 1 ∨ ch = 2 ∨ ch = 3 := by omega
  have e : ∀ r, r = 15 ∨ r = 16 ∨ r = 17 → kr s r ch = s r ch := fun r hr => kr_f (by rcases hr with rfl | rfl | rfl <;> rcases h4 with rfl | rfl | rfl | rfl <;> decide)
  rw [e 15 (by simp), e 16 (by simp), e 17 (by simp)]
  exact q16 ch hc
set_option maxHeartbeats 1000000 in
theorem S16 (H : PI s t) : OKs s t (f_pass s) := by
  have H0 := H
  obtain ⟨mo, nc, nl, ng, np, ⟨⟨⟨n1, n3⟩, ⟨n4, n6⟩, ⟨n7, n9⟩, ⟨n10, n12⟩, ⟨n13, n15⟩⟩, q2, q3, q4, q5, q6, q7, q8⟩, q9, q10, q11, q12, q13, q14, q15, q16, q17⟩ := H
  have HP : PA s mo nc nl ng np t := ⟨⟨⟨⟨n1, n3⟩, ⟨n4, n6⟩, ⟨n7, n9⟩, ⟨n10, n12⟩, ⟨n13, n15⟩⟩, q2, q3, q4, q5, q6, q7, q8⟩, q9, q10, q11, q12, q13, q14, q15, q16, q17⟩
  have enc : ncN s = nc := by unfold ncN; rw [n4, nI_clamp (by omega)]
  have enl : nlN s = nl := by unfold nlN; rw [n7, nI_clamp (by omega)]
  have hlf := PA_left HP
  unfold f_pass
  by_cases h : s 0 6 < 240
  · rw [if_pos h]
    have hm : mo < 240 := by rw [n1, show (240 : Int32) = nI 240 from rfl, bz_lt (by omega) (by omega)] at h; exact h
    have e1 : s 0 6 + 1 = nI (mo + 1) := by rw [n1, show (1 : Int32) = nI 1 from rfl, bz_add]
    refine ⟨?_, fun hbb => absurd hbb (by dsimp only; rw [e1]; exact nbadn (by omega))⟩
    dsimp only
    obtain ⟨i1, i2, i3⟩ := pass_iv (A := passA s) (now := s 0 6 + 1) (nl := nl) (nc := nc) (g := s 31) (r0 := (s 31, dueF s, s 10, s 11)) rfl n6 (fun cd hcd => by
      obtain ⟨⟨c1, c2⟩, c3, c4, c5, c6⟩ := q5.1 _ hcd
      have := Int32.le_iff_toInt_le.mp c4.1
      exact ⟨c1, c2, this⟩) (fun j hj => (hlf j hj).1) (fun j hj => (q6 j hj).1) (passR s) (by unfold passR; rw [enc, enl])
    generalize passR s = R at *
    refine ⟨mo + 1, nc, nl, ng, np, PA_kr ⟨⟨⟨⟨e1, by omega⟩, ⟨n4, n6⟩, ⟨n7, n9⟩, ⟨n10, n12⟩, ⟨n13, n15⟩⟩, fr_ebar rfl q2, fr_vld rfl rfl q3, fr_vch rfl q4, ⟨fun i hi => ?_, fun i hi => ?_⟩, az_vlt_t (vlt_left q6 (fun j hj => ?_) rfl rfl rfl rfl), fr_vcp rfl rfl rfl q7, fr_vpy (s := s) n15 rfl rfl (fun p hp => ?_) q8⟩, fr_x1 rfl q9, fun j hj => ?_, fr_x3 rfl rfl rfl q11, fun j hj => ?_, fun j hj hd => ?_, fr_x6 rfl rfl q14, fr_x7 (s := s) n15 rfl rfl (fun p hp => ?_) q15, fun ch hc => ?_, fun j hj => ?_⟩⟩
    · obtain ⟨c1, c3, c4, c5, c6⟩ := q5.1 i hi
      refine ⟨c1, c3, c4, c5, ?_⟩
      show az_in (if i < 12 then 0 else s 26 i) 3 = true
      rw [if_pos (by omega)]
      decide
    · obtain ⟨c1, c2, c3⟩ := q5.2 i hi
      refine ⟨c1, ?_, c3⟩
      show (if i < 12 then 0 else s 26 i) = 0
      split
      · rfl
      · exact c2
    · show 0 ≤ (R.1 j).toInt ∧ (R.1 j).toInt ≤ _
      have := i1 j hj
      have := (q6 j hj).2.2.1
      omega
    · unfold putR passA
      simp (disch := omega) only [az_up_ne, az_set_ne]
    · obtain ⟨⟨v, v1, v2⟩, v3⟩ := q10 j hj
      refine ⟨⟨v, v1, by omega⟩, fun hq => ?_⟩
      have hq : 0 < (R.1 j).toInt := hq
      have u1 := i1 j hj
      show s 33 j = -1 ∨ ((mo + 1 : Nat) : Int) < (s 33 j).toInt
      rcases v3 (by omega) with v4 | v4
      · exact Or.inl v4
      · right
        have hne : s 33 j ≠ s 0 6 + 1 := fun e => by
          have := i2 j hj e
          rw [this] at hq
          exact absurd hq (by decide)
        have hne2 : (s 33 j).toInt ≠ ((mo + 1 : Nat) : Int) := fun e => hne (by
          apply Int32.toInt_inj.mp
          rw [e, e1, nI_toInt (by omega)])
        omega
    · obtain ⟨v, v1, v2⟩ := q12 j hj
      exact ⟨v, v1, by omega⟩
    · exact z_of (i1 j hj) (q13 j hj hd)
    · unfold putR passA
      simp (disch := omega) only [az_up_ne, az_set_ne]
    · have h0 := q16 ch hc
      have h1 := i3 ch hc
      have d0 : dueF s ch = s 15 ch := by unfold dueF; rw [show ch / 4 = 0 by omega, show ch % 4 = ch by omega]
      have d1 : dueF s (4 + ch) = s 16 ch := by unfold dueF; rw [show (4 + ch) / 4 = 1 by omega, show (4 + ch) % 4 = ch by omega]
      have d2 : dueF s (8 + ch) = s 17 ch := by unfold dueF; rw [show (8 + ch) / 4 = 2 by omega, show (8 + ch) % 4 = ch by omega]
      unfold acP at h1
      dsimp only at h1
      rw [d0, d1, d2] at h1
      have h2 : sm (fun j => decide (passA s 19 (passA s 29 j).toNatClampNeg = nI ch)) (s 31) nl = lft s nl (nI ch) := rfl
      rw [h2] at h1
      show sm (fun j => decide (passA s 19 (passA s 29 j).toNatClampNeg = nI ch)) R.1 nl + ntt s np (nI ch) + R.2.2.1 ch + R.2.2.2 ch + s 12 ch + s 13 ch + R.2.1 ch + R.2.1 (4 + ch) + R.2.1 (8 + ch) = s 8 ch + s 9 ch
      grind
    · have u1 := i1 j hj
      have u2 := q17 j hj
      show (R.1 j).toInt + fb_si (fun p => (putR (passA s) R (112 + p) j).toInt) np ≤ 1000
      rw [fb_si_cong (g := fun p => (s (112 + p) j).toInt) (fun p hp => by
        unfold putR passA
        simp (disch := omega) only [az_up_ne, az_set_ne])]
      omega
  · rw [if_neg h]
    exact OKq H0
end
