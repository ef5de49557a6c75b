/-! each call keeps the invariant: frames, and the calls that do little -/
section
variable {s s' : St} {mo nc nl ng np t : Nat}
theorem fr_ebar (e : s' 40 = s 40) (h : az_ebar s) : az_ebar s' := by unfold az_ebar at *; rw [e]; exact h
theorem fr_vld (e1 : s' 2 = s 2) (e2 : s' 3 = s 3) (h : az_vld s) : az_vld s' := by unfold az_vld at *; rw [e1, e2]; exact h
theorem fr_vch (e : s' 6 = s 6) (h : az_vch s) : az_vch s' := by unfold az_vch at *; rw [e]; exact h
theorem fr_vcd (e1 : s' 19 = s 19) (e2 : s' 20 = s 20) (e3 : s' 21 = s 21) (e4 : s' 22 = s 22) (e5 : s' 24 = s 24) (e6 : s' 26 = s 26) (e7 : s' 27 = s 27) (h : az_vcd nc s) : az_vcd nc s' := by unfold az_vcd at *; rw [e1, e2, e3, e4, e5, e6, e7]; exact h
theorem fr_vlt (e1 : s' 29 = s 29) (e2 : s' 30 = s 30) (e3 : s' 31 = s 31) (e4 : s' 32 = s 32) (e5 : s' 33 = s 33) (h : az_vlt nc nl t s) : az_vlt nc nl t s' := by unfold az_vlt at *; rw [e1, e2, e3, e4, e5]; exact h
theorem fr_vcp (e1 : s' 37 = s 37) (e2 : s' 38 = s 38) (e3 : s' 39 = s 39) (h : az_vcp ng s) : az_vcp ng s' := by unfold az_vcp at *; rw [e1, e2, e3]; exact h
theorem fr_vpy (hn : np ≤ 40) (e1 : s' 107 = s 107) (e2 : s' 109 = s 109) (ep : ∀ p, p < 40 → s' (112 + p) = s (112 + p)) (h : az_vpy nc nl np s) : az_vpy nc nl np s' := fun p hp => by rw [e1, e2, ep p (by omega)]; exact h p hp
theorem fr_x1 (e : s' 7 = s 7) (h : x1 s) : x1 s' := by unfold x1 at *; rw [e]; exact h
theorem fr_x2 (e1 : s' 31 = s 31) (e2 : s' 32 = s 32) (e3 : s' 33 = s 33) (h : x2 mo nl s) : x2 mo nl s' := by unfold x2 at *; rw [e1, e2, e3]; exact h
theorem fr_x3 (e1 : s' 24 = s 24) (e2 : s' 29 = s 29) (e3 : s' 107 = s 107) (h : x3 nl np s) : x3 nl np s' := by unfold x3 at *; rw [e1, e2, e3]; exact h
theorem fr_x4 (e : s' 25 = s 25) (h : x4 mo nc s) : x4 mo nc s' := by unfold x4 at *; rw [e]; exact h
theorem fr_x5 (e1 : s' 6 = s 6) (e2 : s' 19 = s 19) (e3 : s' 29 = s 29) (e4 : s' 31 = s 31) (h : x5 nl s) : x5 nl s' := by unfold x5 at *; rw [e1, e2, e3, e4]; exact h
theorem fr_x6 (e1 : s' 108 = s 108) (e2 : s' 109 = s 109) (h : x6 np s) : x6 np s' := by unfold x6 at *; rw [e1, e2]; exact h
theorem fr_x7 (hn : np ≤ 40) (e1 : s' 29 = s 29) (e2 : s' 107 = s 107) (ep : ∀ p, p < 40 → s' (112 + p) = s (112 + p)) (h : x7 nl np s) : x7 nl np s' := fun p hp => by rw [e1, e2, ep p (by omega)]; exact h p hp
theorem fr_x8 (e1 : s' 19 = s 19) (e2 : s' 29 = s 29) (e3 : s' 31 = s 31) (e4 : s' 107 = s 107) (e5 : s' 109 = s 109) (e6 : s' 8 = s 8) (e7 : s' 9 = s 9) (e8 : s' 10 = s 10) (e9 : s' 11 = s 11) (e10 : s' 12 = s 12) (e11 : s' 13 = s 13) (e12 : s' 15 = s 15) (e13 : s' 16 = s 16) (e14 : s' 17 = s 17) (h : x8 nl np s) : x8 nl np s' := by
  unfold x8 lft ntt at *
  rw [e1, e2, e3, e4, e5, e6, e7, e8, e9, e10, e11, e12, e13, e14]
  exact h
theorem fr_x9 (hn : np ≤ 40) (e1 : s' 31 = s 31) (ep : ∀ p, p < 40 → s' (112 + p) = s (112 + p)) (h : x9 nl np s) : x9 nl np s' := fun j hj => by
  rw [e1, fb_si_cong (g := fun p => (s (112 + p) j).toInt) (fun p hp => by rw [ep p (by omega)])]
  exact h j hj
theorem PI_t (H : PI s t) : PI s (t + 1) := by
  obtain ⟨mo, nc, nl, ng, np, ⟨h1, h2, h3, h4, h5, h6, h7⟩, hx⟩ := H
  exact ⟨mo, nc, nl, ng, np, ⟨h1, h2, h3, h4, h5, az_vlt_t h6, h7⟩, hx⟩
theorem nbad {x : Int32} (h : 0 ≤ x.toInt) : x ≠ bad := fun e => by
  rw [e, show bad.toInt = -2100000000 by decide] at h
  omega
theorem nbad1 : (1 : Int32) ≠ bad := by decide
theorem nbad0 : (0 : Int32) ≠ bad := by decide
theorem nbadn {n : Nat} (h : n < 2 ^ 31) : nI n ≠ bad := nbad (by rw [nI_toInt h]; omega)
theorem nbadl {x : Int32} (h : az_life x) : x ≠ bad := by
  rcases h with h | h
  · rw [h]; exact nbad0
  · exact nbad (by have := Int32.le_iff_toInt_le.mp h.1; rw [show (6 : Int32).toInt = 6 from rfl] at this; omega)
end
/-- the call keeps the invariant, and changes nothing where it is refused -/
def OKs (s : St) (t : Nat) (r : Int32 × St) : Prop := PI r.2 (t + 1) ∧ (r.1 = bad → r.2 = s)
section
variable {s : St} {t : Nat} {a b e f : Int32}
theorem OKq {r : Int32} (H : PI s t) : OKs s t (r, s) := ⟨PI_t H, fun _ => rfl⟩
theorem S0 (H : PI s t) : OKs s t (f_law s a b e f) := by
  have H0 := H
  obtain ⟨mo, nc, nl, ng, np, ⟨⟨⟨n1, n3⟩, ⟨n4, n6⟩, ⟨n7, n9⟩, ⟨n10, n12⟩, ⟨n13, n15⟩⟩, q2, q3, q4, q5, q6, q7, q8⟩, q9, q10, q11, q12, q13, q14, q15, q16, q17⟩ := H
  unfold f_law
  by_cases h : az_in a 3 = true ∧ (b = 0 ∨ 6 ≤ b ∧ b ≤ 60) ∧ (0 ≤ e ∧ e ≤ 9) ∧ (0 ≤ f ∧ f ≤ 100)
  · rw [if_pos h]
    refine ⟨?_, fun hb => absurd hb (nbadl (q3 _ (az_in_k h.1).1).1)⟩
    exact ⟨mo, nc, nl, ng, np, ⟨⟨⟨by simp [az_upe, az_sete, upde, n1], n3⟩, ⟨by simp [az_upe, az_sete, upde, n4], n6⟩, ⟨by simp [az_upe, az_sete, upde, n7], n9⟩, ⟨by simp [az_upe, az_sete, upde, n10], n12⟩, ⟨by simp [az_upe, az_sete, upde, n13], n15⟩⟩, fr_ebar (by simp [az_upe, az_sete]) q2, vld_up (k := a.toNatClampNeg) (x := b) (y := e) q3 h.2.1 h.2.2.1 (by simp [az_upe]) (by simp [az_upe]), fr_vch (by simp [az_upe, az_sete]) q4, fr_vcd (by simp [az_upe, az_sete]) (by simp [az_upe, az_sete]) (by simp [az_upe, az_sete]) (by simp [az_upe, az_sete]) (by simp [az_upe, az_sete]) (by simp [az_upe, az_sete]) (by simp [az_upe, az_sete]) q5, az_vlt_t (fr_vlt (by simp [az_upe, az_sete]) (by simp [az_upe, az_sete]) (by simp [az_upe, az_sete]) (by simp [az_upe, az_sete]) (by simp [az_upe, az_sete]) q6), fr_vcp (by simp [az_upe, az_sete]) (by simp [az_upe, az_sete]) (by simp [az_upe, az_sete]) q7, fr_vpy n15 (by simp [az_upe, az_sete]) (by simp [az_upe, az_sete]) (fun p9 h9 => by simp (disch := omega) only [az_up_ne, az_set_ne]) q8⟩, fr_x1 (by simp [az_upe, az_sete]) q9, fr_x2 (by simp [az_upe, az_sete]) (by simp [az_upe, az_sete]) (by simp [az_upe, az_sete]) q10, fr_x3 (by simp [az_upe, az_sete]) (by simp [az_upe, az_sete]) (by simp [az_upe, az_sete]) q11, fr_x4 (by simp [az_upe, az_sete]) q12, fr_x5 (by simp [az_upe, az_sete]) (by simp [az_upe, az_sete]) (by simp [az_upe, az_sete]) (by simp [az_upe, az_sete]) q13, fr_x6 (by simp [az_upe, az_sete]) (by simp [az_upe, az_sete]) q14, fr_x7 n15 (by simp [az_upe, az_sete]) (by simp [az_upe, az_sete]) (fun p9 h9 => by simp (disch := omega) only [az_up_ne, az_set_ne]) q15, fr_x8 (by simp [az_upe, az_sete]) (by simp [az_upe, az_sete]) (by simp [az_upe, az_sete]) (by simp [az_upe, az_sete]) (by simp [az_upe, az_sete]) (by simp [az_upe, az_sete]) (by simp [az_upe, az_sete]) (by simp [az_upe, az_sete]) (by simp [az_upe, az_sete]) (by simp [az_upe, az_sete]) (by simp [az_upe, az_sete]) (by simp [az_upe, az_sete]) (by simp [az_upe, az_sete]) (by simp [az_upe, az_sete]) q16, fr_x9 n15 (by simp [az_upe, az_sete]) (fun p9 h9 => by simp (disch := omega) only [az_up_ne, az_set_ne]) q17⟩
  · rw [if_neg h]
    exact OKq H0
theorem S1 (H : PI s t) : OKs s t (f_rate s a b) := by
  have H0 := H
  obtain ⟨mo, nc, nl, ng, np, ⟨⟨⟨n1, n3⟩, ⟨n4, n6⟩, ⟨n7, n9⟩, ⟨n10, n12⟩, ⟨n13, n15⟩⟩, q2, q3, q4, q5, q6, q7, q8⟩, q9, q10, q11, q12, q13, q14, q15, q16, q17⟩ := H
  unfold f_rate
  by_cases h : az_in a 4 = true ∧ (0 ≤ b ∧ b ≤ 100)
  · rw [if_pos h]
    refine ⟨?_, fun hb => absurd hb (nbad (q9 _ (az_in_k h.1).1).1)⟩
    exact ⟨mo, nc, nl, ng, np, ⟨⟨⟨by simp [az_upe, az_sete, upde, n1], n3⟩, ⟨by simp [az_upe, az_sete, upde, n4], n6⟩, ⟨by simp [az_upe, az_sete, upde, n7], n9⟩, ⟨by simp [az_upe, az_sete, upde, n10], n12⟩, ⟨by simp [az_upe, az_sete, upde, n13], n15⟩⟩, fr_ebar (by simp [az_upe, az_sete]) q2, fr_vld (by simp [az_upe, az_sete]) (by simp [az_upe, az_sete]) q3, fr_vch (by simp [az_upe, az_sete]) q4, fr_vcd (by simp [az_upe, az_sete]) (by simp [az_upe, az_sete]) (by simp [az_upe, az_sete]) (by simp [az_upe, az_sete]) (by simp [az_upe, az_sete]) (by simp [az_upe, az_sete]) (by simp [az_upe, az_sete]) q5, az_vlt_t (fr_vlt (by simp [az_upe, az_sete]) (by simp [az_upe, az_sete]) (by simp [az_upe, az_sete]) (by simp [az_upe, az_sete]) (by simp [az_upe, az_sete]) q6), fr_vcp (by simp [az_upe, az_sete]) (by simp [az_upe, az_sete]) (by simp [az_upe, az_sete]) q7, fr_vpy n15 (by simp [az_upe, az_sete]) (by simp [az_upe, az_sete]) (fun p9 h9 => by simp (disch := omega) only [az_up_ne, az_set_ne]) q8⟩, fun ch hch => by
      show 0 ≤ (az_up s 7 a.toNatClampNeg b 7 ch).toInt ∧ (az_up s 7 a.toNatClampNeg b 7 ch).toInt ≤ 100
      simp only [az_upe, if_true, upde]
      have h1 := Int32.le_iff_toInt_le.mp h.2.1
      have h2 := Int32.le_iff_toInt_le.mp h.2.2
      rw [show (0 : Int32).toInt = 0 from rfl] at h1
      rw [show (100 : Int32).toInt = 100 from rfl] at h2
      split
      · exact ⟨h1, h2⟩
      · exact q9 ch hch, fr_x2 (by simp [az_upe, az_sete]) (by simp [az_upe, az_sete]) (by simp [az_upe, az_sete]) q10, fr_x3 (by simp [az_upe, az_sete]) (by simp [az_upe, az_sete]) (by simp [az_upe, az_sete]) q11, fr_x4 (by simp [az_upe, az_sete]) q12, fr_x5 (by simp [az_upe, az_sete]) (by simp [az_upe, az_sete]) (by simp [az_upe, az_sete]) (by simp [az_upe, az_sete]) q13, fr_x6 (by simp [az_upe, az_sete]) (by simp [az_upe, az_sete]) q14, fr_x7 n15 (by simp [az_upe, az_sete]) (by simp [az_upe, az_sete]) (fun p9 h9 => by simp (disch := omega) only [az_up_ne, az_set_ne]) q15, fr_x8 (by simp [az_upe, az_sete]) (by simp [az_upe, az_sete]) (by simp [az_upe, az_sete]) (by simp [az_upe, az_sete]) (by simp [az_upe, az_sete]) (by simp [az_upe, az_sete]) (by simp [az_upe, az_sete]) (by simp [az_upe, az_sete]) (by simp [az_upe, az_sete]) (by simp [az_upe, az_sete]) (by simp [az_upe, az_sete]) (by simp [az_upe, az_sete]) (by simp [az_upe, az_sete]) (by simp [az_upe, az_sete]) q16, fr_x9 n15 (by simp [az_upe, az_sete]) (fun p9 h9 => by simp (disch := omega) only [az_up_ne, az_set_ne]) q17⟩
  · rw [if_neg h]
    exact OKq H0
theorem S4 (H : PI s t) : OKs s t (f_camp s a b e) := by
  have H0 := H
  obtain ⟨mo, nc, nl, ng, np, ⟨⟨⟨n1, n3⟩, ⟨n4, n6⟩, ⟨n7, n9⟩, ⟨n10, n12⟩, ⟨n13, n15⟩⟩, q2, q3, q4, q5, q6, q7, q8⟩, q9, q10, q11, q12, q13, q14, q15, q16, q17⟩ := H
  have eng : ngN s = ng := by unfold ngN; rw [n10, nI_clamp (by omega)]
  unfold f_camp
  rw [eng]
  by_cases h : (if a = 0 then 1 ≤ b ∧ b ≤ 200 else 1 ≤ b ∧ b ≤ 90) ∧ (0 ≤ e ∧ e ≤ 500) ∧ ng < 6
  · rw [if_pos h]
    obtain ⟨h1, h2, h3⟩ := h
    refine ⟨?_, fun hb => absurd hb (by show s 36 7 ≠ bad; rw [n10]; exact nbadn (by omega))⟩
    obtain ⟨u, hu1, hu2, hu⟩ := bz_rg (a := 0) (n := 500) (by omega) h2 (by omega)
    by_cases ha : a = 0
    · rw [if_pos ha] at h1
      obtain ⟨v, hv1, hv2, hv⟩ := bz_rg (a := 1) (n := 200) (by omega) h1 (by omega)
      rw [if_pos ha]
      exact ⟨mo, nc, nl, ng + 1, np, ⟨⟨⟨by simp [az_upe, az_sete, upde, n1], n3⟩, ⟨by simp [az_upe, az_sete, upde, n4], n6⟩, ⟨by simp [az_upe, az_sete, upde, n7], n9⟩, ⟨by simp [az_upe, az_sete, upde], by omega⟩, ⟨by simp [az_upe, az_sete, upde, n13], n15⟩⟩, fr_ebar (by simp [az_upe, az_sete]) q2, fr_vld (by simp [az_upe, az_sete]) (by simp [az_upe, az_sete]) q3, fr_vch (by simp [az_upe, az_sete]) q4, fr_vcd (by simp [az_upe, az_sete]) (by simp [az_upe, az_sete]) (by simp [az_upe, az_sete]) (by simp [az_upe, az_sete]) (by simp [az_upe, az_sete]) (by simp [az_upe, az_sete]) (by simp [az_upe, az_sete]) q5, az_vlt_t (fr_vlt (by simp [az_upe, az_sete]) (by simp [az_upe, az_sete]) (by simp [az_upe, az_sete]) (by simp [az_upe, az_sete]) (by simp [az_upe, az_sete]) q6), vcp_add q7 (Or.inr ⟨rfl, hv2⟩) hv1 hv hu hu2 (by simp [az_upe]) (by simp [az_upe]) (by simp [az_upe]), fr_vpy n15 (by simp [az_upe, az_sete]) (by simp [az_upe, az_sete]) (fun p9 h9 => by simp (disch := omega) only [az_up_ne, az_set_ne]) q8⟩, fr_x1 (by simp [az_upe, az_sete]) q9, fr_x2 (by simp [az_upe, az_sete]) (by simp [az_upe, az_sete]) (by simp [az_upe, az_sete]) q10, fr_x3 (by simp [az_upe, az_sete]) (by simp [az_upe, az_sete]) (by simp [az_upe, az_sete]) q11, fr_x4 (by simp [az_upe, az_sete]) q12, fr_x5 (by simp [az_upe, az_sete]) (by simp [az_upe, az_sete]) (by simp [az_upe, az_sete]) (by simp [az_upe, az_sete]) q13, fr_x6 (by simp [az_upe, az_sete]) (by simp [az_upe, az_sete]) q14, fr_x7 n15 (by simp [az_upe, az_sete]) (by simp [az_upe, az_sete]) (fun p9 h9 => by simp (disch := omega) only [az_up_ne, az_set_ne]) q15, fr_x8 (by simp [az_upe, az_sete]) (by simp [az_upe, az_sete]) (by simp [az_upe, az_sete]) (by simp [az_upe, az_sete]) (by simp [az_upe, az_sete]) (by simp [az_upe, az_sete]) (by simp [az_upe, az_sete]) (by simp [az_upe, az_sete]) (by simp [az_upe, az_sete]) (by simp [az_upe, az_sete]) (by simp [az_upe, az_sete]) (by simp [az_upe, az_sete]) (by simp [az_upe, az_sete]) (by simp [az_upe, az_sete]) q16, fr_x9 n15 (by simp [az_upe, az_sete]) (fun p9 h9 => by simp (disch := omega) only [az_up_ne, az_set_ne]) q17⟩
    · rw [if_neg ha] at h1
      obtain ⟨v, hv1, hv2, hv⟩ := bz_rg (a := 1) (n := 90) (by omega) h1 (by omega)
      rw [if_neg ha]
      exact ⟨mo, nc, nl, ng + 1, np, ⟨⟨⟨by simp [az_upe, az_sete, upde, n1], n3⟩, ⟨by simp [az_upe, az_sete, upde, n4], n6⟩, ⟨by simp [az_upe, az_sete, upde, n7], n9⟩, ⟨by simp [az_upe, az_sete, upde], by omega⟩, ⟨by simp [az_upe, az_sete, upde, n13], n15⟩⟩, fr_ebar (by simp [az_upe, az_sete]) q2, fr_vld (by simp [az_upe, az_sete]) (by simp [az_upe, az_sete]) q3, fr_vch (by simp [az_upe, az_sete]) q4, fr_vcd (by simp [az_upe, az_sete]) (by simp [az_upe, az_sete]) (by simp [az_upe, az_sete]) (by simp [az_upe, az_sete]) (by simp [az_upe, az_sete]) (by simp [az_upe, az_sete]) (by simp [az_upe, az_sete]) q5, az_vlt_t (fr_vlt (by simp [az_upe, az_sete]) (by simp [az_upe, az_sete]) (by simp [az_upe, az_sete]) (by simp [az_upe, az_sete]) (by simp [az_upe, az_sete]) q6), vcp_add q7 (Or.inl ⟨rfl, hv2⟩) hv1 hv hu hu2 (by simp [az_upe]) (by simp [az_upe]) (by simp [az_upe]), fr_vpy n15 (by simp [az_upe, az_sete]) (by simp [az_upe, az_sete]) (fun p9 h9 => by simp (disch := omega) only [az_up_ne, az_set_ne]) q8⟩, fr_x1 (by simp [az_upe, az_sete]) q9, fr_x2 (by simp [az_upe, az_sete]) (by simp [az_upe, az_sete]) (by simp [az_upe, az_sete]) q10, fr_x3 (by simp [az_upe, az_sete]) (by simp [az_upe, az_sete]) (by simp [az_upe, az_sete]) q11, fr_x4 (by simp [az_upe, az_sete]) q12, fr_x5 (by simp [az_upe, az_sete]) (by simp [az_upe, az_sete]) (by simp [az_upe, az_sete]) (by simp [az_upe, az_sete]) q13, fr_x6 (by simp [az_upe, az_sete]) (by simp [az_upe, az_sete]) q14, fr_x7 n15 (by simp [az_upe, az_sete]) (by simp [az_upe, az_sete]) (fun p9 h9 => by simp (disch := omega) only [az_up_ne, az_set_ne]) q15, fr_x8 (by simp [az_upe, az_sete]) (by simp [az_upe, az_sete]) (by simp [az_upe, az_sete]) (by simp [az_upe, az_sete]) (by simp [az_upe, az_sete]) (by simp [az_upe, az_sete]) (by simp [az_upe, az_sete]) (by simp [az_upe, az_sete]) (by simp [az_upe, az_sete]) (by simp [az_upe, az_sete]) (by simp [az_upe, az_sete]) (by simp [az_upe, az_sete]) (by simp [az_upe, az_sete]) (by simp [az_upe, az_sete]) q16, fr_x9 n15 (by simp [az_upe, az_sete]) (fun p9 h9 => by simp (disch := omega) only [az_up_ne, az_set_ne]) q17⟩
  · rw [if_neg h]
    exact OKq H0
theorem S5 (H : PI s t) : OKs s t (f_bar s a b e) := by
  have H0 := H
  obtain ⟨mo, nc, nl, ng, np, ⟨⟨⟨n1, n3⟩, ⟨n4, n6⟩, ⟨n7, n9⟩, ⟨n10, n12⟩, ⟨n13, n15⟩⟩, q2, q3, q4, q5, q6, q7, q8⟩, q9, q10, q11, q12, q13, q14, q15, q16, q17⟩ := H
  have eng : ngN s = ng := by unfold ngN; rw [n10, nI_clamp (by omega)]
  unfold f_bar
  rw [eng]
  by_cases h : az_in a ng = true ∧ az_in b ng = true ∧ a ≠ b
  · rw [if_pos h]
    obtain ⟨h1, h2, h3⟩ := h
    obtain ⟨k1, k2⟩ := az_in_k (az_in_w h1 n12)
    obtain ⟨j1, j2⟩ := az_in_k (az_in_w h2 n12)
    obtain ⟨ma, hma, ea, -, -⟩ := q2 _ k1
    obtain ⟨mb, hmb, eb, -, -⟩ := q2 _ j1
    have hab : a.toNatClampNeg ≠ b.toNatClampNeg := fun h => h3 (by rw [k2, j2, h])
    refine ⟨?_, fun hb => absurd hb (by show (if _ then (1 : Int32) else 0) ≠ bad; split <;> decide)⟩
    unfold barB
    rw [ea, eb, nI_clamp (by omega), nI_clamp (by omega)]
    exact ⟨mo, nc, nl, ng, np, ⟨⟨⟨by simp [az_upe, az_sete, upde, n1], n3⟩, ⟨by simp [az_upe, az_sete, upde, n4], n6⟩, ⟨by simp [az_upe, az_sete, upde, n7], n9⟩, ⟨by simp [az_upe, az_sete, upde, n10], n12⟩, ⟨by simp [az_upe, az_sete, upde, n13], n15⟩⟩, ebar_up (v := if e = 0 then false else true) q2 k1 j1 hab hma hmb ea eb (by simp [az_upe]), fr_vld (by simp [az_upe, az_sete]) (by simp [az_upe, az_sete]) q3, fr_vch (by simp [az_upe, az_sete]) q4, fr_vcd (by simp [az_upe, az_sete]) (by simp [az_upe, az_sete]) (by simp [az_upe, az_sete]) (by simp [az_upe, az_sete]) (by simp [az_upe, az_sete]) (by simp [az_upe, az_sete]) (by simp [az_upe, az_sete]) q5, az_vlt_t (fr_vlt (by simp [az_upe, az_sete]) (by simp [az_upe, az_sete]) (by simp [az_upe, az_sete]) (by simp [az_upe, az_sete]) (by simp [az_upe, az_sete]) q6), fr_vcp (by simp [az_upe, az_sete]) (by simp [az_upe, az_sete]) (by simp [az_upe, az_sete]) q7, fr_vpy n15 (by simp [az_upe, az_sete]) (by simp [az_upe, az_sete]) (fun p9 h9 => by simp (disch := omega) only [az_up_ne, az_set_ne]) q8⟩, fr_x1 (by simp [az_upe, az_sete]) q9, fr_x2 (by simp [az_upe, az_sete]) (by simp [az_upe, az_sete]) (by simp [az_upe, az_sete]) q10, fr_x3 (by simp [az_upe, az_sete]) (by simp [az_upe, az_sete]) (by simp [az_upe, az_sete]) q11, fr_x4 (by simp [az_upe, az_sete]) q12, fr_x5 (by simp [az_upe, az_sete]) (by simp [az_upe, az_sete]) (by simp [az_upe, az_sete]) (by simp [az_upe, az_sete]) q13, fr_x6 (by simp [az_upe, az_sete]) (by simp [az_upe, az_sete]) q14, fr_x7 n15 (by simp [az_upe, az_sete]) (by simp [az_upe, az_sete]) (fun p9 h9 => by simp (disch := omega) only [az_up_ne, az_set_ne]) q15, fr_x8 (by simp [az_upe, az_sete]) (by simp [az_upe, az_sete]) (by simp [az_upe, az_sete]) (by simp [az_upe, az_sete]) (by simp [az_upe, az_sete]) (by simp [az_upe, az_sete]) (by simp [az_upe, az_sete]) (by simp [az_upe, az_sete]) (by simp [az_upe, az_sete]) (by simp [az_upe, az_sete]) (by simp [az_upe, az_sete]) (by simp [az_upe, az_sete]) (by simp [az_upe, az_sete]) (by simp [az_upe, az_sete]) q16, fr_x9 n15 (by simp [az_upe, az_sete]) (fun p9 h9 => by simp (disch := omega) only [az_up_ne, az_set_ne]) q17⟩
  · rw [if_neg h]
    exact OKq H0
theorem S6 (H : PI s t) : OKs s t (f_best s a) := by
  unfold f_best
  split <;> exact OKq H
theorem S8 (H : PI s t) : OKs s t (f_few s a) := by
  unfold f_few
  split <;> exact OKq H
theorem S10 (H : PI s t) : OKs s t (f_why s a b) := by
  unfold f_why
  split <;> exact OKq H
theorem x3_up {s' : St} {nl np k : Nat} {v : Int32} (h : x3 nl np s) (hv : v ≠ 2) (e24 : s' 24 = upd (s 24) k v) (e29 : s' 29 = s 29) (e107 : s' 107 = s 107) : x3 nl np s' := by
  unfold x3 at *
  rw [e24, e29, e107]
  refine ⟨fun j hj => ?_, fun p hp => ?_⟩ <;> rw [upde] <;> split
  · exact hv
  · exact h.1 j hj
  · exact hv
  · exact h.2 p hp
theorem S15 (H : PI s t) : OKs s t (f_free s a) := by
  have H0 := H
  obtain ⟨mo, nc, nl, ng, np, ⟨⟨⟨n1, n3⟩, ⟨n4, n6⟩, ⟨n7, n9⟩, ⟨n10, n12⟩, ⟨n13, n15⟩⟩, q2, q3, q4, q5, q6, q7, q8⟩, q9, q10, q11, q12, q13, q14, q15, q16, q17⟩ := H
  have enc : ncN s = nc := by unfold ncN; rw [n4, nI_clamp (by omega)]
  unfold f_free
  rw [enc]
  by_cases h : az_in a nc = true
  · rw [if_pos h]
    have hk := (az_in_k h).1
    by_cases h2 : s 24 a.toNatClampNeg = 1
    · rw [if_pos h2]
      refine ⟨?_, fun hb => absurd hb nbad1⟩
      exact ⟨mo, nc, nl, ng, np, ⟨⟨⟨by simp [az_upe, az_sete, upde, n1], n3⟩, ⟨by simp [az_upe, az_sete, upde, n4], n6⟩, ⟨by simp [az_upe, az_sete, upde, n7], n9⟩, ⟨by simp [az_upe, az_sete, upde, n10], n12⟩, ⟨by simp [az_upe, az_sete, upde, n13], n15⟩⟩, fr_ebar (by simp [az_upe, az_sete]) q2, fr_vld (by simp [az_upe, az_sete]) (by simp [az_upe, az_sete]) q3, fr_vch (by simp [az_upe, az_sete]) q4, vcd_up q5 hk (x := 0) (y := s 26 a.toNatClampNeg) (by decide) (q5.1 _ hk).2.2.2.2 (by simp [az_upe]) (by simp [az_upe]) (by simp [az_upe]) (by simp [az_upe]) (by simp [az_upe]) (by simp [az_upe, upd_same]) (by simp [az_upe]), az_vlt_t (fr_vlt (by simp [az_upe, az_sete]) (by simp [az_upe, az_sete]) (by simp [az_upe, az_sete]) (by simp [az_upe, az_sete]) (by simp [az_upe, az_sete]) q6), fr_vcp (by simp [az_upe, az_sete]) (by simp [az_upe, az_sete]) (by simp [az_upe, az_sete]) q7, fr_vpy n15 (by simp [az_upe, az_sete]) (by simp [az_upe, az_sete]) (fun p9 h9 => by simp (disch := omega) only [az_up_ne, az_set_ne]) q8⟩, fr_x1 (by simp [az_upe, az_sete]) q9, fr_x2 (by simp [az_upe, az_sete]) (by simp [az_upe, az_sete]) (by simp [az_upe, az_sete]) q10, x3_up (k := a.toNatClampNeg) (v := 0) q11 (by decide) (by simp [az_upe]) (by simp [az_upe]) (by simp [az_upe]), fr_x4 (by simp [az_upe, az_sete]) q12, fr_x5 (by simp [az_upe, az_sete]) (by simp [az_upe, az_sete]) (by simp [az_upe, az_sete]) (by simp [az_upe, az_sete]) q13, fr_x6 (by simp [az_upe, az_sete]) (by simp [az_upe, az_sete]) q14, fr_x7 n15 (by simp [az_upe, az_sete]) (by simp [az_upe, az_sete]) (fun p9 h9 => by simp (disch := omega) only [az_up_ne, az_set_ne]) q15, fr_x8 (by simp [az_upe, az_sete]) (by simp [az_upe, az_sete]) (by simp [az_upe, az_sete]) (by simp [az_upe, az_sete]) (by simp [az_upe, az_sete]) (by simp [az_upe, az_sete]) (by simp [az_upe, az_sete]) (by simp [az_upe, az_sete]) (by simp [az_upe, az_sete]) (by simp [az_upe, az_sete]) (by simp [az_upe, az_sete]) (by simp [az_upe, az_sete]) (by simp [az_upe, az_sete]) (by simp [az_upe, az_sete]) q16, fr_x9 n15 (by simp [az_upe, az_sete]) (fun p9 h9 => by simp (disch := omega) only [az_up_ne, az_set_ne]) q17⟩
    · rw [if_neg h2]
      exact OKq H0
  · rw [if_neg h]
    exact OKq H0
theorem S14 (H : PI s t) : OKs s t (f_att s a b) := by
  have H0 := H
  obtain ⟨mo, nc, nl, ng, np, ⟨⟨⟨n1, n3⟩, ⟨n4, n6⟩, ⟨n7, n9⟩, ⟨n10, n12⟩, ⟨n13, n15⟩⟩, q2, q3, q4, q5, q6, q7, q8⟩, q9, q10, q11, q12, q13, q14, q15, q16, q17⟩ := H
  have enc : ncN s = nc := by unfold ncN; rw [n4, nI_clamp (by omega)]
  unfold f_att
  rw [enc]
  by_cases h : az_in a nc = true ∧ (0 ≤ b ∧ b ≤ 99999) ∧ s 24 a.toNatClampNeg = 0
  · rw [if_pos h]
    have hk := (az_in_k h.1).1
    have h24 := (q5.1 _ hk).2.2.2.1
    have h26 := (q5.1 _ hk).2.2.2.2
    by_cases h2 : b = codeS s a
    · rw [if_pos h2]
      refine ⟨?_, fun hb => absurd hb nbad1⟩
      exact ⟨mo, nc, nl, ng, np, ⟨⟨⟨by simp [az_upe, az_sete, upde, n1], n3⟩, ⟨by simp [az_upe, az_sete, upde, n4], n6⟩, ⟨by simp [az_upe, az_sete, upde, n7], n9⟩, ⟨by simp [az_upe, az_sete, upde, n10], n12⟩, ⟨by simp [az_upe, az_sete, upde, n13], n15⟩⟩, fr_ebar (by simp [az_upe, az_sete]) q2, fr_vld (by simp [az_upe, az_sete]) (by simp [az_upe, az_sete]) q3, fr_vch (by simp [az_upe, az_sete]) q4, vcd_up q5 hk (x := s 24 a.toNatClampNeg) (y := 0) h24 (by decide) (by simp [az_upe]) (by simp [az_upe]) (by simp [az_upe]) (by simp [az_upe]) (by simp [az_upe, upd_same]) (by simp [az_upe]) (by simp [az_upe]), az_vlt_t (fr_vlt (by simp [az_upe, az_sete]) (by simp [az_upe, az_sete]) (by simp [az_upe, az_sete]) (by simp [az_upe, az_sete]) (by simp [az_upe, az_sete]) q6), fr_vcp (by simp [az_upe, az_sete]) (by simp [az_upe, az_sete]) (by simp [az_upe, az_sete]) q7, fr_vpy n15 (by simp [az_upe, az_sete]) (by simp [az_upe, az_sete]) (fun p9 h9 => by simp (disch := omega) only [az_up_ne, az_set_ne]) q8⟩, fr_x1 (by simp [az_upe, az_sete]) q9, fr_x2 (by simp [az_upe, az_sete]) (by simp [az_upe, az_sete]) (by simp [az_upe, az_sete]) q10, fr_x3 (by simp [az_upe, az_sete]) (by simp [az_upe, az_sete]) (by simp [az_upe, az_sete]) q11, fr_x4 (by simp [az_upe, az_sete]) q12, fr_x5 (by simp [az_upe, az_sete]) (by simp [az_upe, az_sete]) (by simp [az_upe, az_sete]) (by simp [az_upe, az_sete]) q13, fr_x6 (by simp [az_upe, az_sete]) (by simp [az_upe, az_sete]) q14, fr_x7 n15 (by simp [az_upe, az_sete]) (by simp [az_upe, az_sete]) (fun p9 h9 => by simp (disch := omega) only [az_up_ne, az_set_ne]) q15, fr_x8 (by simp [az_upe, az_sete]) (by simp [az_upe, az_sete]) (by simp [az_upe, az_sete]) (by simp [az_upe, az_sete]) (by simp [az_upe, az_sete]) (by simp [az_upe, az_sete]) (by simp [az_upe, az_sete]) (by simp [az_upe, az_sete]) (by simp [az_upe, az_sete]) (by simp [az_upe, az_sete]) (by simp [az_upe, az_sete]) (by simp [az_upe, az_sete]) (by simp [az_upe, az_sete]) (by simp [az_upe, az_sete]) q16, fr_x9 n15 (by simp [az_upe, az_sete]) (fun p9 h9 => by simp (disch := omega) only [az_up_ne, az_set_ne]) q17⟩
    · rw [if_neg h2]
      refine ⟨?_, fun hb => absurd hb nbad0⟩
      show PI (missS s a) _
      unfold missS
      by_cases h3 : 3 ≤ s 26 a.toNatClampNeg + 1
      · rw [if_pos h3]
        exact ⟨mo, nc, nl, ng, np, ⟨⟨⟨by simp [az_upe, az_sete, upde, n1], n3⟩, ⟨by simp [az_upe, az_sete, upde, n4], n6⟩, ⟨by simp [az_upe, az_sete, upde, n7], n9⟩, ⟨by simp [az_upe, az_sete, upde, n10], n12⟩, ⟨by simp [az_upe, az_sete, upde, n13], n15⟩⟩, fr_ebar (by simp [az_upe, az_sete]) q2, fr_vld (by simp [az_upe, az_sete]) (by simp [az_upe, az_sete]) q3, fr_vch (by simp [az_upe, az_sete]) q4, vcd_up q5 hk (x := 1) (y := 0) (by decide) (by decide) (by simp [az_upe]) (by simp [az_upe]) (by simp [az_upe]) (by simp [az_upe]) (by simp [az_upe]) (by simp [az_upe]) (by simp [az_upe]), az_vlt_t (fr_vlt (by simp [az_upe, az_sete]) (by simp [az_upe, az_sete]) (by simp [az_upe, az_sete]) (by simp [az_upe, az_sete]) (by simp [az_upe, az_sete]) q6), fr_vcp (by simp [az_upe, az_sete]) (by simp [az_upe, az_sete]) (by simp [az_upe, az_sete]) q7, fr_vpy n15 (by simp [az_upe, az_sete]) (by simp [az_upe, az_sete]) (fun p9 h9 => by simp (disch := omega) only [az_up_ne, az_set_ne]) q8⟩, fr_x1 (by simp [az_upe, az_sete]) q9, fr_x2 (by simp [az_upe, az_sete]) (by simp [az_upe, az_sete]) (by simp [az_upe, az_sete]) q10, x3_up (k := a.toNatClampNeg) (v := 1) q11 (by decide) (by simp [az_upe]) (by simp [az_upe]) (by simp [az_upe]), fr_x4 (by simp [az_upe, az_sete]) q12, fr_x5 (by simp [az_upe, az_sete]) (by simp [az_upe, az_sete]) (by simp [az_upe, az_sete]) (by simp [az_upe, az_sete]) q13, fr_x6 (by simp [az_upe, az_sete]) (by simp [az_upe, az_sete]) q14, fr_x7 n15 (by simp [az_upe, az_sete]) (by simp [az_upe, az_sete]) (fun p9 h9 => by simp (disch := omega) only [az_up_ne, az_set_ne]) q15, fr_x8 (by simp [az_upe, az_sete]) (by simp [az_upe, az_sete]) (by simp [az_upe, az_sete]) (by simp [az_upe, az_sete]) (by simp [az_upe, az_sete]) (by simp [az_upe, az_sete]) (by simp [az_upe, az_sete]) (by simp [az_upe, az_sete]) (by simp [az_upe, az_sete]) (by simp [az_upe, az_sete]) (by simp [az_upe, az_sete]) (by simp [az_upe, az_sete]) (by simp [az_upe, az_sete]) (by simp [az_upe, az_sete]) q16, fr_x9 n15 (by simp [az_upe, az_sete]) (fun p9 h9 => by simp (disch := omega) only [az_up_ne, az_set_ne]) q17⟩
      · rw [if_neg h3]
        have hy : az_in (s 26 a.toNatClampNeg + 1) 3 = true := by
          rcases bz_m3 h26 with hm | hm | hm
          · rw [hm]; decide
          · rw [hm]; decide
          · rw [hm] at h3; exact absurd (by decide) h3
        exact ⟨mo, nc, nl, ng, np, ⟨⟨⟨by simp [az_upe, az_sete, upde, n1], n3⟩, ⟨by simp [az_upe, az_sete, upde, n4], n6⟩, ⟨by simp [az_upe, az_sete, upde, n7], n9⟩, ⟨by simp [az_upe, az_sete, upde, n10], n12⟩, ⟨by simp [az_upe, az_sete, upde, n13], n15⟩⟩, fr_ebar (by simp [az_upe, az_sete]) q2, fr_vld (by simp [az_upe, az_sete]) (by simp [az_upe, az_sete]) q3, fr_vch (by simp [az_upe, az_sete]) q4, vcd_up q5 hk (x := s 24 a.toNatClampNeg) (y := s 26 a.toNatClampNeg + 1) h24 hy (by simp [az_upe]) (by simp [az_upe]) (by simp [az_upe]) (by simp [az_upe]) (by simp [az_upe, upd_same]) (by simp [az_upe]) (by simp [az_upe]), az_vlt_t (fr_vlt (by simp [az_upe, az_sete]) (by simp [az_upe, az_sete]) (by simp [az_upe, az_sete]) (by simp [az_upe, az_sete]) (by simp [az_upe, az_sete]) q6), fr_vcp (by simp [az_upe, az_sete]) (by simp [az_upe, az_sete]) (by simp [az_upe, az_sete]) q7, fr_vpy n15 (by simp [az_upe, az_sete]) (by simp [az_upe, az_sete]) (fun p9 h9 => by simp (disch := omega) only [az_up_ne, az_set_ne]) q8⟩, fr_x1 (by simp [az_upe, az_sete]) q9, fr_x2 (by simp [az_upe, az_sete]) (by simp [az_upe, az_sete]) (by simp [az_upe, az_sete]) q10, fr_x3 (by simp [az_upe, az_sete]) (by simp [az_upe, az_sete]) (by simp [az_upe, az_sete]) q11, fr_x4 (by simp [az_upe, az_sete]) q12, fr_x5 (by simp [az_upe, az_sete]) (by simp [az_upe, az_sete]) (by simp [az_upe, az_sete]) (by simp [az_upe, az_sete]) q13, fr_x6 (by simp [az_upe, az_sete]) (by simp [az_upe, az_sete]) q14, fr_x7 n15 (by simp [az_upe, az_sete]) (by simp [az_upe, az_sete]) (fun p9 h9 => by simp (disch := omega) only [az_up_ne, az_set_ne]) q15, fr_x8 (by simp [az_upe, az_sete]) (by simp [az_upe, az_sete]) (by simp [az_upe, az_sete]) (by simp [az_upe, az_sete]) (by simp [az_upe, az_sete]) (by simp [az_upe, az_sete]) (by simp [az_upe, az_sete]) (by simp [az_upe, az_sete]) (by simp [az_upe, az_sete]) (by simp [az_upe, az_sete]) (by simp [az_upe, az_sete]) (by simp [az_upe, az_sete]) (by simp [az_upe, az_sete]) (by simp [az_upe, az_sete]) q16, fr_x9 n15 (by simp [az_upe, az_sete]) (fun p9 h9 => by simp (disch := omega) only [az_up_ne, az_set_ne]) q17⟩
  · rw [if_neg h]
    exact OKq H0
end
