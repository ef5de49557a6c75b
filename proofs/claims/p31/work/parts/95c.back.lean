/-! coins go back: the invariant stays -/
section
theorem sm_fs {g : Nat → Int32} {v : Int32} : ∀ n : Nat, fd (fun j s => s - g j) n 0 v = v - sm (fun _ => true) g n := by
  intro n
  induction n with
  | zero => show v = v - 0; grind
  | succ n ih =>
    rw [fd_split (h := fun j s => s - g j) n 1 0 v, ih, Nat.zero_add, sm_s, if_pos rfl]
    show v - sm (fun _ => true) g n - g n = _
    grind
theorem sm_ext {w : Nat → Bool} {g : Nat → Int32} {n : Nat} : ∀ {k : Nat}, (∀ j, n ≤ j → j < n + k → g j = 0) → sm w g (n + k) = sm w g n
  | 0, _ => rfl
  | k + 1, h => by
    rw [show n + (k + 1) = n + k + 1 from rfl, sm_s, sm_ext (k := k) (fun j h1 h2 => h j h1 (by omega)), h (n + k) (by omega) (by omega)]
    split <;> grind
theorem sm_cut {ex : Nat → Bool} {g : Nat → Int32} : ∀ {n : Nat}, sm (fun _ => true) g n = sm ex g n + sm (fun j => !ex j) g n
  | 0 => rfl
  | n + 1 => by
    rw [sm_s, sm_s, sm_s, sm_cut (ex := ex) (n := n), if_pos rfl]
    cases h : ex n
    · simp only [Bool.false_eq_true, if_false, Bool.not_false, if_true]; grind
    · simp only [Bool.not_true, Bool.false_eq_true, if_false, if_true]; grind
theorem sm_wW {w ex : Nat → Bool} {g D : Nat → Int32} {W : Bool} {n : Nat} (h : ∀ j, j < n → D j ≠ 0 → w j = W) : sm w (fun j => if ex j = true then g j else g j + D j) n = sm w g n + (if W = true then sm (fun j => !ex j) D n else 0) := by
  have e1 : sm w (fun j => if ex j = true then g j else g j + D j) n = sm w (fun j => g j + (fun j => if ex j = true then 0 else D j) j) n := sm_cg fun j hj => by
    by_cases q : ex j = true
    · simp only [q, if_true, Int32.add_zero]
    · simp only [q, Bool.false_eq_true, if_false]
  rw [e1, sm_add (g := g) (h := fun j => if ex j = true then 0 else D j)]
  by_cases hW : W = true
  · rw [if_pos hW]
    have e2 : sm w (fun j => if ex j = true then 0 else D j) n = sm (fun j => !ex j) D n := sm_cg fun j hj => by
      by_cases q0 : D j = 0
      · rw [q0]; simp
      · rw [h j hj q0, hW]
        by_cases q : ex j = true
        · simp [q]
        · simp [q]
    rw [e2]
  · rw [if_neg hW]
    have e2 : sm w (fun j => if ex j = true then 0 else D j) n = 0 := sm_zero fun j hj hw => by
      have q0 : D j = 0 := Classical.byContradiction fun q => hW (by rw [← h j hj q]; exact hw)
      rw [q0]
      simp
    rw [e2]
variable {s u : St} {mo nc nl ng np t : Nat}
def x8b (nl np : Nat) (s : St) (cd co : Int32) : Prop := ∀ ch, ch < 4 → lft s nl (nI ch) + ntt s np (nI ch) + (if s 19 cd.toNatClampNeg = nI ch then co else 0) + s 10 ch + s 11 ch + s 12 ch + s 13 ch + s 15 ch + s 16 ch + s 17 ch = s 8 ch + s 9 ch
theorem x8_adb {s' : St} {cd co : Int32} (h : x8b nl np s cd co) (e19 : s' 19 = s 19) (e29 : s' 29 = upd (s 29) nl cd) (e31 : s' 31 = upd (s 31) nl co) (e107 : s' 107 = s 107) (e109 : s' 109 = s 109) (e8 : s' 8 = s 8) (e9 : s' 9 = s 9) (e10 : s' 10 = s 10) (e11 : s' 11 = s 11) (e12 : s' 12 = s 12) (e13 : s' 13 = s 13) (e15 : s' 15 = s 15) (e16 : s' 16 = s 16) (e17 : s' 17 = s 17) : x8 (nl + 1) np s' := fun ch hc => by
  have := h ch hc
  rw [lft_add (s := s) (fun j hj => by rw [e19]) e29 e31, ntt_cg (s := s) (fun j hj => by rw [e19]) e107 e109, e19, e8, e9, e10, e11, e12, e13, e15, e16, e17]
  grind
def UA (s : St) (mo nc nl ng np t : Nat) : Prop := PC s mo nc nl ng np t ∧ x1 s ∧ x2 mo nl s ∧ x3 nl np s ∧ x4 mo nc s ∧ x5 nl s ∧ x6 np s ∧ x7 nl np s ∧ x9 nl np s
theorem UA_add {cd co : Int32} (H : UA s mo nc nl ng np t) (hx : x8b nl np s cd co) (h1 : az_in cd nc = true) (h3 : s 24 cd.toNatClampNeg ≠ 2) (h4 : s 6 (s 19 cd.toNatClampNeg).toNatClampNeg = 0) (h5 : nl < 60) (hb : 0 ≤ co.toInt ∧ co.toInt ≤ 1000) : PI (addLot s cd 1 co (s 0 6) (s 0 6 + 3)) (t + 1) := by
  obtain ⟨⟨⟨⟨n1, n3⟩, ⟨n4, n6⟩, ⟨n7, n9⟩, ⟨n10, n12⟩, ⟨n13, n15⟩⟩, q2, q3, q4, q5, q6, q7, q8⟩, q9, q10, q11, q12, q13, q14, q15, q17⟩ := H
  have enl : nlN s = nl := by unfold nlN; rw [n7, nI_clamp (by omega)]
  have hz := vpy_z q8 h5
  unfold addLot
  rw [enl]
  generalize hen : s 0 6 + 3 = en
  have hee : en = -1 ∨ (en = nI (mo + 3) ∧ mo < mo + 3 ∧ mo + 3 ≤ 300) := Or.inr ⟨by rw [← hen, n1, show (3 : Int32) = nI 3 from rfl, bz_add], by omega, by omega⟩
  have q16 : True := trivial
  exact ⟨mo, nc, nl + 1, ng, np, ⟨⟨⟨by simp [az_upe, az_sete, upde, n1], n3⟩, ⟨by simp [az_upe, az_sete, upde, n4], n6⟩, ⟨by simp [az_upe, az_sete, upde], by omega⟩, ⟨by simp [az_upe, az_sete, upde, n10], n12⟩, ⟨by simp [az_upe, az_sete, upde, n13], n15⟩⟩, fr_ebar (by simp [az_upe, az_sete]) q2, fr_vld (by simp [az_upe, az_sete]) (by simp [az_upe, az_sete]) q3, fr_vch (by simp [az_upe, az_sete]) q4, fr_vcd (by simp [az_upe, az_sete]) (by simp [az_upe, az_sete]) (by simp [az_upe, az_sete]) (by simp [az_upe, az_sete]) (by simp [az_upe, az_sete]) (by simp [az_upe, az_sete]) (by simp [az_upe, az_sete]) q5, az_vlt_t (vlt_add (cd := cd) (og := 1) (co := co) (bg := s 0 6) (b := mo) (en := en) (e := mo + 3) q6 (Nat.le_refl _) h1 (by decide) hb n1 hee (by simp [az_upe]) (by simp [az_upe]) (by simp [az_upe]) (by simp [az_upe]) (by simp [az_upe])), fr_vcp (by simp [az_upe, az_sete]) (by simp [az_upe, az_sete]) (by simp [az_upe, az_sete]) q7, vpy_add q8 (Nat.le_refl _) (Nat.le_succ _) n15 (by simp [az_upe]) (by simp [az_upe]) (fun p9 h9 => by simp (disch := omega) only [az_up_ne, az_set_ne])⟩, fr_x1 (by simp [az_upe, az_sete]) q9, x2_add (co := co) (en := en) q10 (en_gt hee) (by simp [az_upe]) (by simp [az_upe, n1]) (by simp [az_upe]), x3_add (cd := cd) q11 (fun _ _ => by simp [az_upe]) (fun _ _ => by simp [az_upe]) (by simp [az_upe, h3]) (by simp [az_upe]) (by simp [az_upe]), fr_x4 (by simp [az_upe, az_sete]) q12, x5_add (cd := cd) (co := co) q13 (fun _ _ => by simp [az_upe]) (by simp [az_upe]) (by simp [az_upe, h4]) (by simp [az_upe]) (by simp [az_upe]), fr_x6 (by simp [az_upe, az_sete]) (by simp [az_upe, az_sete]) q14, x7_add (cd := cd) q15 n15 hz (by simp [az_upe]) (by simp [az_upe]) (fun p9 h9 => by simp (disch := omega) only [az_up_ne, az_set_ne]), x8_adb hx (by simp [az_upe]) (by simp [az_upe]) (by simp [az_upe]) (by simp [az_upe]) (by simp [az_upe]) (by simp [az_upe]) (by simp [az_upe]) (by simp [az_upe]) (by simp [az_upe]) (by simp [az_upe]) (by simp [az_upe]) (by simp [az_upe]) (by simp [az_upe]) (by simp [az_upe]), x9_add (co := co) q17 n15 hz hb.2 (by simp [az_upe]) (fun p9 h9 => by simp (disch := omega) only [az_up_ne, az_set_ne])⟩
end
section
variable {s : St} {t : Nat} {a b e f : Int32}
set_option maxHeartbeats 2000000 in
theorem S11 (H : PI s t) : OKs s t (f_back s a b) := by
  have H0 := H
  obtain ⟨mo, nc, nl, ng, np, ⟨⟨⟨n1, n3⟩, ⟨n4, n6⟩, ⟨n7, n9⟩, ⟨n10, n12⟩, ⟨n13, n15⟩⟩, q2, q3, q4, q5, q6, q7, q8⟩, q9, q10, q11, q12, q13, q14, q15, q16, q17⟩ := H
  have HP : PA s mo nc nl ng np t := ⟨⟨⟨⟨n1, n3⟩, ⟨n4, n6⟩, ⟨n7, n9⟩, ⟨n10, n12⟩, ⟨n13, n15⟩⟩, q2, q3, q4, q5, q6, q7, q8⟩, q9, q10, q11, q12, q13, q14, q15, q16, q17⟩
  have enl : nlN s = nl := by unfold nlN; rw [n7, nI_clamp (by omega)]
  have enp : npN s = np := by unfold npN; rw [n13, nI_clamp (by omega)]
  unfold f_back
  rw [enp, enl]
  by_cases h : az_in a np = true ∧ (1 ≤ b ∧ b ≤ s 109 a.toNatClampNeg) ∧ s 6 (s 19 (s 107 a.toNatClampNeg).toNatClampNeg).toNatClampNeg = 0 ∧ (0 < bkL s a.toNatClampNeg b → nl < 60)
  · rw [if_pos h]
    obtain ⟨h1, h2, h3, h4⟩ := h
    obtain ⟨k1, -⟩ := az_in_k h1
    generalize a.toNatClampNeg = p at *
    obtain ⟨c1, n, c2, c3, c4, c5⟩ := q8 p k1
    have h9 := q15 p k1
    have hlf := PA_left HP
    have hx9 := q17
    rw [c3] at h2
    obtain ⟨m, m1, m2, m3⟩ := bz_rg (a := 1) (n := n) (by omega) h2 (by omega)
    obtain ⟨o1, o2⟩ := ordR_spec (lt := ltS s) ltb_t ltb_tot (P := pOp (s (112 + p))) (n := nl)
    have hnd := srt_nodup (lt := ltS s) ltb_ir o2
    generalize hL : ordR (ltS s) (pOp (s (112 + p))) nl = L at *
    have hmem : ∀ x, x ∈ L ↔ x < nl ∧ 0 < (s (112 + p) x).toInt := fun x => by
      rw [o1 x]
      unfold pOp
      rw [decide_eq_true_eq, Int32.lt_iff_toInt_lt, show (0 : Int32).toInt = 0 from rfl]
    have hpos : ∀ x, x ∈ L → 0 ≤ (s (112 + p) x).toInt := fun x hx => by have := ((hmem x).mp hx).2; omega
    have hb0 : 0 ≤ b.toInt := by rw [m3, nI_toInt (by omega)]; omega
    have ho0 : ∀ j, j < 60 → j ∉ L → (s (112 + p) j).toInt = 0 := fun j hj hjl => by
      have := (c4 j hj).1
      by_cases hjn : j < nl
      · have : ¬ 0 < (s (112 + p) j).toInt := fun q => hjl ((hmem j).mpr ⟨hjn, q⟩)
        omega
      · rw [(c4 j hj).2 (by omega)]; rfl
    have hso : sml (s (112 + p)) L = (n : Int) := by
      rw [c5, ← smi_sml, smi_all hnd (fun x hx => by have := ((hmem x).mp hx).1; omega) ho0]
    obtain ⟨g1, g2, g3, -⟩ := gb_bd (op := s (112 + p)) (L := L) (dr := fun _ => 0) (m := b) hnd hpos hb0
    have g4 := gb_full (op := s (112 + p)) (L := L) (dr := fun _ => 0) (m := b) hpos hb0 (by rw [hso, m3, nI_toInt (by omega)]; omega)
    have eD : bkD s p b = (gb L (s (112 + p)) (fun _ => 0, b)).1 := by unfold bkD; rw [enl, hL]
    rw [← eD] at g1 g2 g3
    unfold bkS bkL at *
    rw [enl] at h4 ⊢
    generalize bkD s p b = D at *
    rw [g4, show (0 : Int32).toInt = 0 from rfl] at g3
    have hD : ∀ j, j < 60 → 0 ≤ (D j).toInt ∧ (D j).toInt ≤ (s (112 + p) j).toInt := fun j hj => by
      by_cases hjl : j ∈ L
      · exact ⟨(g2 j hjl).1, (g2 j hjl).2.1⟩
      · rw [g1 j hjl]; exact ⟨Int.le_refl _, (c4 j hj).1⟩
    have hDn : ∀ j, D j ≠ 0 → j < nl ∧ s 29 j = s 107 p := fun j hj => by
      have hjl : j ∈ L := Classical.byContradiction fun q => hj (g1 j q)
      obtain ⟨u1, u2⟩ := (hmem j).mp hjl
      exact ⟨u1, h9 j u1 (fun q => by rw [q] at u2; exact absurd u2 (by decide))⟩
    have hsD : fb_si (fun j => (D j).toInt) 60 = (m : Int) := by
      rw [← smi_all hnd (fun x hx => by have := ((hmem x).mp hx).1; omega) (fun j _ hj => by rw [g1 j hj]; rfl), smi_sml]
      rw [m3, nI_toInt (by omega)] at g3
      omega
    have hpo : ∀ j, j < nl → (s (112 + p) j).toInt ≤ fb_si (fun q => (s (112 + q) j).toInt) np := fun j hj => by
      have h0 : ∀ q, q < np → 0 ≤ (s (112 + q) j).toInt := fun q hq => ((q8 q hq).2.choose_spec.2.2.1 j (by omega)).1
      have e := fb_si_upd (fun q => (s (112 + q) j).toInt) 0 k1
      have : 0 ≤ fb_si (fun k => if k = p then 0 else (s (112 + k) j).toInt) np := fb_si_nn fun q hq => by
        split
        · exact Int.le_refl _
        · exact h0 q hq
      omega
    have hD3 : ∀ j, j < nl → (s 31 j).toInt + (D j).toInt ≤ 1000 := fun j hj => by
      have u1 := hx9 j hj
      have u2 := hpo j hj
      have u3 := hD j (by omega)
      omega
    have hD1 : ∀ j, j < 60 → 0 ≤ (D j).toInt ∧ (D j).toInt ≤ 1000 := fun j hj => by
      refine ⟨(hD j hj).1, ?_⟩
      by_cases q : D j = 0
      · rw [q]; decide
      · have := hD3 j (hDn j q).1
        have := hlf j (hDn j q).1
        omega
    have hv : (fd (fun j v => v - D j) 60 0 (s 109 p)).toInt = (n : Int) - m := by
      rw [fsb_sum (Nat.le_refl _) hD1 (by rw [c3, nI_toInt (by omega)]; omega), hsD, c3, nI_toInt (by omega)]
    have hvn : fd (fun j v => v - D j) 60 0 (s 109 p) = nI (n - m) := by
      apply Int32.toInt_inj.mp
      rw [hv, nI_toInt (by omega)]
      omega
    have hl := flt_sum (ex := exI s (s 0 6)) (dr := D) n9 (fun j hj => hD1 j (by omega))
    have hl2 : 0 ≤ (fd (flt (exI s (s 0 6)) D) nl 0 0).toInt ∧ (fd (flt (exI s (s 0 6)) D) nl 0 0).toInt ≤ 1000 := by
      rw [hl]
      refine ⟨fb_si_nn fun j hj => ?_, ?_⟩
      · split
        · exact (hD1 j (by omega)).1
        · exact Int.le_refl _
      · have u1 : fb_si (fun j => if exI s (s 0 6) j = true then (D j).toInt else 0) nl ≤ fb_si (fun j => (D j).toInt) nl := fb_si_mono fun j hj => by
          split
          · exact Int.le_refl _
          · exact (hD1 j (by omega)).1
        have u2 := fb_si_split (fun j => (D j).toInt) nl (60 - nl)
        rw [show nl + (60 - nl) = 60 by omega, hsD] at u2
        have u3 : 0 ≤ fb_si (fun k => (D (nl + k)).toInt) (60 - nl) := fb_si_nn fun k hk => (hD1 (nl + k) (by omega)).1
        omega
    have hl3 : fd (flt (exI s (s 0 6)) D) nl 0 0 = sm (exI s (s 0 6)) D nl := by
      have : fd (flt (exI s (s 0 6)) D) nl 0 0 = 0 + sm (exI s (s 0 6)) D nl := sm_fd nl
      rw [this]
      grind
    have hv3 : fd (fun j v => v - D j) 60 0 (s 109 p) = s 109 p - sm (exI s (s 0 6)) D nl - sm (fun j => !exI s (s 0 6) j) D nl := by
      rw [sm_fs, show (60 : Nat) = nl + (60 - nl) by omega, sm_ext (fun j u1 u2 => Classical.byContradiction fun q => by have := (hDn j q).1; omega), sm_cut (ex := exI s (s 0 6))]
      grind
    rw [fub_eq]
    have e31a : ∀ j, j < nl → (fun k => if 0 ≤ k ∧ k < 0 + nl then (if exI s (s 0 6) k = true then s 31 k else s 31 k + D k) else s 31 k) j = if exI s (s 0 6) j = true then s 31 j else s 31 j + D j := fun j hj => by
      dsimp only
      rw [if_pos (by omega)]
    generalize hM : (fun k => if 0 ≤ k ∧ k < 0 + nl then (if exI s (s 0 6) k = true then s 31 k else s 31 k + D k) else s 31 k) = M at *
    generalize hV : fd (fun j v => v - D j) 60 0 (s 109 p) = V at *
    generalize hB : fd (flt (exI s (s 0 6)) D) nl 0 0 = B at *
    have eopq : ∀ q, q < 40 → q ≠ p → az_set (az_set (az_set s (112 + p) (fun k => if k < 60 then s (112 + p) k - D k else s (112 + p) k)) 109 (upd (s 109) p V)) 31 M (112 + q) = s (112 + q) := fun q hq hne => by
      simp (disch := omega) only [az_set_ne]
    have eopp : ∀ j, j < 60 → az_set (az_set (az_set s (112 + p) (fun k => if k < 60 then s (112 + p) k - D k else s (112 + p) k)) 109 (upd (s 109) p V)) 31 M (112 + p) j = s (112 + p) j - D j := fun j hj => by
      rw [az_set_ne (by omega), az_set_ne (by omega), az_sete, if_pos rfl, if_pos hj]
    have e31 : az_set (az_set (az_set s (112 + p) (fun k => if k < 60 then s (112 + p) k - D k else s (112 + p) k)) 109 (upd (s 109) p V)) 31 M 31 = M := rfl
    have e109 : az_set (az_set (az_set s (112 + p) (fun k => if k < 60 then s (112 + p) k - D k else s (112 + p) k)) 109 (upd (s 109) p V)) 31 M 109 = upd (s 109) p V := rfl
    have fr0 : ∀ r, (r < 112 ∧ r ≠ 31 ∧ r ≠ 109) → az_set (az_set (az_set s (112 + p) (fun k => if k < 60 then s (112 + p) k - D k else s (112 + p) k)) 109 (upd (s 109) p V)) 31 M r = s r := fun r hr => by
      rw [az_set_ne hr.2.1, az_set_ne hr.2.2, az_set_ne (by omega)]
    generalize hS' : az_set (az_set (az_set s (112 + p) (fun k => if k < 60 then s (112 + p) k - D k else s (112 + p) k)) 109 (upd (s 109) p V)) 31 M = s' at *
    have hMb : ∀ j, j < nl → 0 ≤ (M j).toInt ∧ (M j).toInt ≤ (s 31 j).toInt + (D j).toInt := fun j hj => by
      rw [e31a j hj]
      have u1 := hlf j hj
      have u2 := hD1 j (by omega)
      split
      · omega
      · rw [Int32.toInt_add, Int.bmod_eq_of_le (by omega) (by omega)]
        omega
    have hU : UA s' mo nc nl ng np t := by
      refine ⟨⟨⟨⟨by rw [fr0 0 (by decide)]; exact n1, n3⟩, ⟨by rw [fr0 18 (by decide)]; exact n4, n6⟩, ⟨by rw [fr0 28 (by decide)]; exact n7, n9⟩, ⟨by rw [fr0 36 (by decide)]; exact n10, n12⟩, ⟨by rw [fr0 106 (by decide)]; exact n13, n15⟩⟩, fr_ebar (fr0 40 (by decide)) q2, fr_vld (fr0 2 (by decide)) (fr0 3 (by decide)) q3, fr_vch (fr0 6 (by decide)) q4, fr_vcd (fr0 19 (by decide)) (fr0 20 (by decide)) (fr0 21 (by decide)) (fr0 22 (by decide)) (fr0 24 (by decide)) (fr0 26 (by decide)) (fr0 27 (by decide)) q5, vlt_left q6 (fun j hj => ?_) (fr0 29 (by decide)) (fr0 30 (by decide)) (fr0 32 (by decide)) (fr0 33 (by decide)), fr_vcp (fr0 37 (by decide)) (fr0 38 (by decide)) (fr0 39 (by decide)) q7, fun q hq => ?_⟩, fr_x1 (fr0 7 (by decide)) q9, fun j hj => ?_, fr_x3 (fr0 24 (by decide)) (fr0 29 (by decide)) (fr0 107 (by decide)) q11, fr_x4 (fr0 25 (by decide)) q12, fun j hj hd => ?_, fun q hq => ?_, fun q hq j hj ho => ?_, fun j hj => ?_⟩
      · rw [e31]
        have := hMb j hj
        have := hD3 j hj
        omega
      · rw [fr0 107 (by decide), e109, upde]
        by_cases hqp : q = p
        · subst hqp
          rw [if_pos rfl]
          refine ⟨c1, n - m, by omega, hvn, fun j hj => ?_, ?_⟩
          · rw [eopp j hj]
            have u1 := hD j hj
            have u2 := (s (112 + q) j).toInt_lt
            refine ⟨by rw [Int32.toInt_sub, Int.bmod_eq_of_le (by omega) (by omega)]; omega, fun hn => ?_⟩
            rw [(c4 j hj).2 hn, Classical.byContradiction (p := D j = 0) fun q => by have := (hDn j q).1; omega]
            rfl
          · rw [fb_si_cong (g := fun j => (s (112 + q) j).toInt - (D j).toInt) (fun j hj => by
              rw [eopp j hj]
              have u1 := hD j hj
              have u2 := (s (112 + q) j).toInt_lt
              rw [Int32.toInt_sub, Int.bmod_eq_of_le (by omega) (by omega)]), fb_si_sub, hsD, ← c5]
            omega
        · rw [if_neg hqp, eopq q (by omega) hqp]
          exact q8 q hq
      · rw [fr0 32 (by decide), fr0 33 (by decide), e31]
        obtain ⟨v1, v2⟩ := q10 j hj
        refine ⟨v1, fun hq => ?_⟩
        rw [e31a j hj] at hq
        by_cases hex : exI s (s 0 6) j = true
        · rw [if_pos hex] at hq
          exact v2 hq
        · unfold exI az_nv at hex
          rw [decide_eq_true_eq, n1] at hex
          by_cases hm1 : s 33 j = -1
          · exact Or.inl hm1
          · rw [if_neg hm1, Int32.le_iff_toInt_le, nI_toInt (by omega)] at hex
            exact Or.inr (by omega)
      · rw [fr0 6 (by decide), fr0 19 (by decide), fr0 29 (by decide)] at hd
        have h0 := q13 j hj hd
        have hd0 : D j = 0 := Classical.byContradiction fun q => hd (by rw [(hDn j q).2]; exact h3)
        rw [e31, e31a j hj, hd0, h0]
        split <;> rfl
      · rw [fr0 108 (by decide), e109, upde]
        obtain ⟨mm, w1, w2, w3⟩ := q14 q hq
        refine ⟨mm, w1, w2, ?_⟩
        split
        · rename_i hqp
          subst hqp
          rw [c3, nI_toInt (by omega)] at w3
          omega
        · exact w3
      · rw [fr0 29 (by decide), fr0 107 (by decide)]
        by_cases hqp : q = p
        · subst hqp
          rw [eopp j (by omega)] at ho
          refine q15 q hq j hj fun hz => ho ?_
          have u1 := hD j (by omega)
          rw [hz, show (0 : Int32).toInt = 0 from rfl] at u1
          have : D j = 0 := by apply Int32.toInt_inj.mp; rw [show (0 : Int32).toInt = 0 from rfl]; omega
          rw [hz, this]
          rfl
        · rw [eopq q (by omega) hqp] at ho
          exact q15 q hq j hj ho
      · rw [e31]
        have u1 := hx9 j hj
        have u2 := hMb j hj
        have u3 := hD j (by omega)
        have u4 := (s (112 + p) j).toInt_lt
        have e := fb_si_upd (fun q => (s (112 + q) j).toInt) ((s (112 + p) j).toInt - (D j).toInt) k1
        rw [fb_si_cong (g := fun k => if k = p then (s (112 + p) j).toInt - (D j).toInt else (s (112 + k) j).toInt) (fun q hq => by
          by_cases hqp : q = p
          · subst hqp
            rw [if_pos rfl, eopp j (by omega), Int32.toInt_sub, Int.bmod_eq_of_le (by omega) (by omega)]
          · rw [if_neg hqp, eopq q (by omega) hqp]), e]
        omega
    have hx8 : x8b nl np s' (s 107 p) B := fun ch hc => by
      have h0 := q16 ch hc
      have e1 : lft s' nl (nI ch) = lft s nl (nI ch) + (if s 19 (s 107 p).toNatClampNeg = nI ch then sm (fun j => !exI s (s 0 6) j) D nl else 0) := by
        unfold lft
        rw [e31, fr0 19 (by decide), fr0 29 (by decide)]
        have e : sm (fun j => decide (s 19 (s 29 j).toNatClampNeg = nI ch)) M nl = sm (fun j => decide (s 19 (s 29 j).toNatClampNeg = nI ch)) (fun j => if exI s (s 0 6) j = true then s 31 j else s 31 j + D j) nl := sm_cg fun j hj => by rw [e31a j hj]
        rw [e, sm_wW (W := decide (s 19 (s 107 p).toNatClampNeg = nI ch)) (fun j hj hd => by rw [(hDn j hd).2])]
        simp only [decide_eq_true_eq]
      have e2 : ntt s' np (nI ch) = ntt s np (nI ch) + (if s 19 (s 107 p).toNatClampNeg = nI ch then V - s 109 p else 0) := by
        unfold ntt
        rw [e109, fr0 19 (by decide), fr0 107 (by decide), sm_upd k1]
        simp only [decide_eq_true_eq]
      rw [e1, e2, fr0 19 (by decide), fr0 10 (by decide), fr0 11 (by decide), fr0 12 (by decide), fr0 13 (by decide), fr0 15 (by decide), fr0 16 (by decide), fr0 17 (by decide), fr0 8 (by decide), fr0 9 (by decide), hv3, hl3]
      split <;> grind
    have hans : s' 109 p ≠ bad := by rw [e109, up_eq9, hvn]; exact nbadn (by omega)
    refine ⟨?_, fun hbb => absurd hbb hans⟩
    dsimp only
    by_cases hB0 : 0 < B
    · rw [if_pos hB0]
      have := UA_add hU hx8 c1 (by rw [fr0 24 (by decide)]; exact q11.2 p k1) (by rw [fr0 6 (by decide), fr0 19 (by decide)]; exact h3) (h4 hB0) hl2
      rw [fr0 0 (by decide)] at this
      exact this
    · rw [if_neg hB0]
      have hBz : B = 0 := by
        rw [Int32.lt_iff_toInt_lt, show (0 : Int32).toInt = 0 from rfl] at hB0
        apply Int32.toInt_inj.mp
        rw [show (0 : Int32).toInt = 0 from rfl]
        omega
      obtain ⟨u1, u2, u3, u4, u5, u6, u7, u8, u9⟩ := hU
      refine PI_t ⟨mo, nc, nl, ng, np, u1, u2, u3, u4, u5, u6, u7, u8, fun ch hc => ?_, u9⟩
      have := hx8 ch hc
      rw [hBz] at this
      rw [← this]
      split <;> grind
  · rw [if_neg h]
    exact OKq H0
end
