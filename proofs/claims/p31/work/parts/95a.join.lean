/-! two cards become one: the invariant stays -/
theorem fmva_cl {a b : Int32} {i : Nat} : ∀ n j (f : Nat → Int32), fd (fmva a b) n j f i = if j ≤ i ∧ i < j + n ∧ f i = a then b else f i
  | 0, j, f => by rw [if_neg (by omega)]; rfl
  | n + 1, j, f => by
    show fd (fmva a b) n (j + 1) (fmva a b j f) i = _
    rw [fmva_cl n (j + 1)]
    unfold fmva
    by_cases hi : i = j
    · subst hi
      rw [if_neg (by omega)]
      by_cases hf : f i = a
      · rw [if_pos hf, if_pos ⟨by omega, by omega, hf⟩, up_eq9]
      · rw [if_neg hf, if_neg (by simp [hf])]
    · have e : (if f j = a then upd f j b else f) i = f i := by
        split
        · exact up_ne9 hi
        · rfl
      rw [e]
      by_cases h : j + 1 ≤ i ∧ i < j + 1 + n ∧ f i = a
      · rw [if_pos h, if_pos ⟨by omega, by omega, h.2.2⟩]
      · rw [if_neg h, if_neg (fun q => h ⟨by omega, by omega, q.2.2⟩)]
section
variable {s s' : St} {mo nc nl ng np t : Nat}
theorem lft_mv (h19 : ∀ j, j < nl → s' 19 (s' 29 j).toNatClampNeg = s 19 (s 29 j).toNatClampNeg) (e31 : s' 31 = s 31) (x : Int32) : lft s' nl x = lft s nl x := by
  unfold lft
  rw [e31]
  exact sm_cg fun j hj => by rw [h19 j hj]
theorem ntt_mv (h19 : ∀ p, p < np → s' 19 (s' 107 p).toNatClampNeg = s 19 (s 107 p).toNatClampNeg) (e109 : s' 109 = s 109) (x : Int32) : ntt s' np x = ntt s np x := by
  unfold ntt
  rw [e109]
  exact sm_cg fun p hp => by rw [h19 p hp]
end
section
variable {s : St} {t : Nat} {a b e f : Int32}
set_option maxHeartbeats 1000000 in
theorem S13 (H : PI s t) : OKs s t (f_join s a b) := by
  have H0 := H
  obtain ⟨mo, nc, nl, ng, np, ⟨⟨⟨n1, n3⟩, ⟨n4, n6⟩, ⟨n7, n9⟩, ⟨n10, n12⟩, ⟨n13, n15⟩⟩, q2, q3, q4, q5, q6, q7, q8⟩, q9, q10, q11, q12, q13, q14, q15, q16, q17⟩ := H
  have enc : ncN s = nc := by unfold ncN; rw [n4, nI_clamp (by omega)]
  have enl : nlN s = nl := by unfold nlN; rw [n7, nI_clamp (by omega)]
  have enp : npN s = np := by unfold npN; rw [n13, nI_clamp (by omega)]
  unfold f_join
  rw [enc]
  by_cases h : az_in a nc = true ∧ az_in b nc = true ∧ a ≠ b ∧ s 24 a.toNatClampNeg = 0 ∧ s 24 b.toNatClampNeg = 0 ∧ s 19 a.toNatClampNeg = s 19 b.toNatClampNeg ∧ s 6 (s 19 b.toNatClampNeg).toNatClampNeg = 0
  · rw [if_pos h]
    obtain ⟨h1, h2, h3, h4, h5, h6, h7⟩ := h
    obtain ⟨k1, k2⟩ := az_in_k h1
    obtain ⟨j1, j2⟩ := az_in_k h2
    have hab : a.toNatClampNeg ≠ b.toNatClampNeg := fun h => h3 (by rw [k2, j2, h])
    have g29 : ∀ j, j < nl → fd (fmva b a) nl 0 (s 29) j = if s 29 j = b then a else s 29 j := fun j hj => by
      rw [fmva_cl]
      by_cases q : s 29 j = b
      · rw [if_pos q, if_pos ⟨Nat.zero_le _, by omega, q⟩]
      · rw [if_neg q, if_neg (by simp [q])]
    have g107 : ∀ j, j < np → fd (fmva b a) np 0 (s 107) j = if s 107 j = b then a else s 107 j := fun j hj => by
      rw [fmva_cl]
      by_cases q : s 107 j = b
      · rw [if_pos q, if_pos ⟨Nat.zero_le _, by omega, q⟩]
      · rw [if_neg q, if_neg (by simp [q])]
    have c19 : ∀ x : Int32, s 19 (if x = b then a else x).toNatClampNeg = s 19 x.toNatClampNeg := fun x => by
      split
      · rename_i q; rw [q, h6]
      · rfl
    have c24 : ∀ x : Int32, az_in x nc = true → s 24 x.toNatClampNeg ≠ 2 → upd (s 24) b.toNatClampNeg 2 (if x = b then a else x).toNatClampNeg ≠ 2 := fun x hx h => by
      by_cases q : x = b
      · rw [if_pos q, up_ne9 hab, h4]; decide
      · rw [if_neg q, up_ne9 (fun e => q (by rw [(az_in_k hx).2, e, ← j2]))]; exact h
    have hP : ∃ mo nc nl ng np, PA (joinS s a b) mo nc nl ng np (t + 1) := by
      unfold joinS
      rw [enl, enp]
      generalize hF : fd (fmva b a) nl 0 (s 29) = F at *
      generalize hG : fd (fmva b a) np 0 (s 107) = G at *
      exact ⟨mo, nc, nl, ng, np, ⟨⟨⟨by simp [az_upe, az_sete, upde, n1], n3⟩, ⟨by simp [az_upe, az_sete, upde, n4], n6⟩, ⟨by simp [az_upe, az_sete, upde, n7], n9⟩, ⟨by simp [az_upe, az_sete, upde, n10], n12⟩, ⟨by simp [az_upe, az_sete, upde, n13], n15⟩⟩, fr_ebar (by simp [az_upe, az_sete]) q2, fr_vld (by simp [az_upe, az_sete]) (by simp [az_upe, az_sete]) q3, fr_vch (by simp [az_upe, az_sete]) q4, vcd_up q5 j1 (x := 2) (y := 0) (by decide) (by decide) (by simp [az_upe, az_sete]) (by simp [az_upe, az_sete]) (by simp [az_upe, az_sete]) (by simp [az_upe, az_sete]) (by simp [az_upe, az_sete]) (by simp [az_upe, az_sete]) (fun i hi => by simp [az_upe, az_sete, upde, show i ≠ b.toNatClampNeg by omega, show i ≠ a.toNatClampNeg by omega]), az_vlt_t (vlt_mv q6 (fun j hj => by simp [az_upe, az_sete]; rw [g29 j hj]; split; exact h1; exact (q6 j hj).1) (by simp [az_upe, az_sete]) (by simp [az_upe, az_sete]) (by simp [az_upe, az_sete]) (by simp [az_upe, az_sete])), fr_vcp (by simp [az_upe, az_sete]) (by simp [az_upe, az_sete]) (by simp [az_upe, az_sete]) q7, fun p hp => by
        have ep : ∀ p, p < 40 → (az_up (az_up (az_up (az_up (az_up (az_set (az_set s 29 F) 107 G) 27 a.toNatClampNeg (s 27 a.toNatClampNeg + s 27 b.toNatClampNeg)) 27 b.toNatClampNeg 0) 24 b.toNatClampNeg 2) 26 b.toNatClampNeg 0) 25 a.toNatClampNeg (s 0 6)) (112 + p) = s (112 + p) := fun p9 h9 => by simp (disch := omega) only [az_up_ne, az_set_ne]
        obtain ⟨u1, u2⟩ := q8 p hp
        rw [ep p (by omega)]
        refine ⟨?_, ?_⟩
        · simp [az_upe, az_sete]
          rw [g107 p hp]
          split
          · exact h1
          · exact u1
        · simp only [az_upe, az_sete, Nat.reduceEqDiff, if_false]
          exact u2⟩, fr_x1 (by simp [az_upe, az_sete]) q9, fr_x2 (by simp [az_upe, az_sete]) (by simp [az_upe, az_sete]) (by simp [az_upe, az_sete]) q10, ⟨fun j hj => by simp [az_upe, az_sete]; rw [g29 j hj]; exact c24 _ (q6 j hj).1 (q11.1 j hj), fun p hp => by simp [az_upe, az_sete]; rw [g107 p hp]; exact c24 _ (q8 p hp).1 (q11.2 p hp)⟩, x4_up (k := a.toNatClampNeg) q12 n1 (by simp [az_upe, az_sete]), fun j hj hd => by
        simp [az_upe, az_sete] at hd ⊢
        rw [g29 j hj, c19] at hd
        exact q13 j hj hd, fr_x6 (by simp [az_upe, az_sete]) (by simp [az_upe, az_sete]) q14, fun p hp j hj ho => by
        have ep : (az_up (az_up (az_up (az_up (az_up (az_set (az_set s 29 F) 107 G) 27 a.toNatClampNeg (s 27 a.toNatClampNeg + s 27 b.toNatClampNeg)) 27 b.toNatClampNeg 0) 24 b.toNatClampNeg 2) 26 b.toNatClampNeg 0) 25 a.toNatClampNeg (s 0 6)) (112 + p) = s (112 + p) := by simp (disch := omega) only [az_up_ne, az_set_ne]
        rw [ep] at ho
        simp [az_upe, az_sete]
        rw [g29 j hj, g107 p hp, q15 p hp j hj ho], fun ch hc => by
        have := q16 ch hc
        rw [lft_mv (s := s) (fun j hj => by simp [az_upe, az_sete]; rw [g29 j hj, c19]) (by simp [az_upe, az_sete]), ntt_mv (s := s) (fun p hp => by simp [az_upe, az_sete]; rw [g107 p hp, c19]) (by simp [az_upe, az_sete])]
        simp [az_upe, az_sete]
        exact this, fr_x9 n15 (by simp [az_upe, az_sete]) (fun p9 h9 => by simp (disch := omega) only [az_up_ne, az_set_ne]) q17⟩
    obtain ⟨_, _, _, _, _, hP⟩ := hP
    exact ⟨⟨_, _, _, _, _, hP⟩, fun hb => absurd hb (bal_nn hP a)⟩
  · rw [if_neg h]
    exact OKq H0
end
