/-! coins go back: what both take from which lot -/
theorem back_facts {I : Nat → Nat → Int32} {mo nc nl ng np t p n cn : Nat} (H : az_Sim I mo nc nl ng np t) (hp : p < np) (hn : I 109 p = nI n) (hn1 : n ≤ 1000) (hcn : cn ≤ n) : ∃ (F : List Nat) (D : Nat → Int32), (F.length ≤ 60 ∧ I 181 p = nI F.length ∧ (∀ k, k < F.length → I 182 (60 * p + k) = nI (F.getD k 0)) ∧ (∀ x, x ∈ F → x < nl)) ∧
    (∀ (f : Nat → Int32) (j : Nat), j < 60 → (gb (ordR (ltb (fun j => az_nv (I 33 j)) (I 30)) (pOp (I (112 + p))) nl) (I (112 + p)) ((fun j => if j < 60 then 0 else f j), nI cn)).1 j = D j) ∧
    (∀ j, nl ≤ j → D j = 0) ∧ (∀ j, j < 60 → 0 ≤ (D j).toInt ∧ (D j).toInt ≤ (I (112 + p) j).toInt ∧ (D j).toInt ≤ 1000) ∧ fb_si (fun j => (D j).toInt) 60 = cn ∧
    (∀ (ex : Nat → Bool) (g : Nat → Int32), (mb true ex F.reverse (g, I (112 + p), 0, nI cn)).1 = (fun k => if ex k = true then g k else g k + D k) ∧ (mb true ex F.reverse (g, I (112 + p), 0, nI cn)).2.1 = (fun k => I (112 + p) k - D k)) ∧
    (∀ (b : Bool) (ex : Nat → Bool) (g dr : Nat → Int32), (∀ j, j < 60 → dr j = D j) → (mb b ex F.reverse (g, I (112 + p), 0, nI cn)).2.2.1 = fd (flt ex dr) nl 0 0) := by
  obtain ⟨h1, h2, h3, h4, h5, h6, h7, h8, h9, h10, h11, h12, h13⟩ := H
  have hn60 := h2.2.2.1.2.2
  obtain ⟨a1, a2, w, hw, a3, f, a4, a5, a6, a7⟩ := h12 p hp
  obtain ⟨F, F1, F2, F3, F4, F5, F6⟩ := pay_list hn60 (fun k hk => (a4 k hk).2) a5
  have hrn : F.reverse.Nodup := nd_rev F4
  have hrm : ∀ z, z ∈ F.reverse ↔ z ∈ F := fun z => List.mem_reverse
  have hop : ∀ x, x ∈ F.reverse → 0 ≤ (I (112 + p) x).toInt := fun x hx => (a6 x (by have := F5 x ((hrm x).mp hx); omega)).1
  have hcn0 : (nI cn).toInt = (cn : Int) := nI_toInt (by omega)
  have hsum : sml (I (112 + p)) F.reverse = (n : Int) := by
    rw [sml_rev, ← fb_sml F]
    have e1 : fb_si (fun k => (I (112 + p) (F.getD k 0)).toInt) F.length = fb_si (fun k => (I (112 + p) (f k)).toInt) w := by
      rw [F1]
      exact fb_si_cong fun k hk => by rw [F2 k hk]
    rw [e1, ← a7, hn, nI_toInt (by omega)]
  obtain ⟨g1, g2, g3, g4⟩ := gb_bd (op := I (112 + p)) (dr := fun _ => 0) (m := nI cn) hrn hop (by omega)
  have gf := gb_full (op := I (112 + p)) (dr := fun _ => 0) (m := nI cn) hop (by omega) (by omega)
  rw [gf, show (0 : Int32).toInt = 0 from rfl] at g3
  have hD0 : ∀ j, j ∉ F → (gb F.reverse (I (112 + p)) ((fun _ => 0), nI cn)).1 j = 0 := fun j hj => g1 j (fun h => hj ((hrm j).mp h))
  have hDb : ∀ j, j < 60 → 0 ≤ ((gb F.reverse (I (112 + p)) ((fun _ => 0), nI cn)).1 j).toInt ∧ ((gb F.reverse (I (112 + p)) ((fun _ => 0), nI cn)).1 j).toInt ≤ (I (112 + p) j).toInt ∧ ((gb F.reverse (I (112 + p)) ((fun _ => 0), nI cn)).1 j).toInt ≤ 1000 := fun j hj => by
    by_cases hjF : j ∈ F
    · obtain ⟨k1, k2, k3⟩ := g2 j ((hrm j).mpr hjF)
      exact ⟨k1, k2, by omega⟩
    · rw [hD0 j hjF, show (0 : Int32).toInt = 0 from rfl]
      exact ⟨Int.le_refl _, (a6 j hj).1, by omega⟩
  obtain ⟨o1, o2⟩ := ordR_spec (lt := ltb (fun j => az_nv (I 33 j)) (I 30)) ltb_t ltb_tot (P := pOp (I (112 + p))) (n := nl)
  have hR : ordR (ltb (fun j => az_nv (I 33 j)) (I 30)) (pOp (I (112 + p))) nl = F.reverse.filter (fun j => decide (0 < I (112 + p) j)) := by
    refine srt_uniq (lt := ltb (fun j => az_nv (I 33 j)) (I 30)) ltb_ir ltb_t o2 (List.Pairwise.filter _ (List.pairwise_reverse.mpr F3)) fun z => ?_
    rw [o1, List.mem_filter, hrm]
    unfold pOp
    constructor
    · rintro ⟨k1, k2⟩
      refine ⟨?_, k2⟩
      have k3 := Int32.lt_iff_toInt_lt.mp (of_decide_eq_true k2)
      rw [show (0 : Int32).toInt = 0 from rfl] at k3
      exact (F6 z).mpr ((a6 z (by omega)).2 (by omega))
    · rintro ⟨k1, k2⟩
      exact ⟨F5 z k1, k2⟩
  have hfl : (gb (F.reverse.filter fun j => decide (0 < I (112 + p) j)) (I (112 + p)) ((fun _ => 0), nI cn)) = gb F.reverse (I (112 + p)) ((fun _ => 0), nI cn) := gb_filter hop (by omega) hrn (fun _ _ => rfl)
  refine ⟨F, (gb F.reverse (I (112 + p)) ((fun _ => 0), nI cn)).1, ⟨by omega, by rw [a3, F1], fun k hk => by rw [F1] at hk; rw [F2 k hk]; exact (a4 k hk).1, F5⟩, fun f35 j hj => ?_, fun j hj => hD0 j (fun h => by have := F5 j h; omega), hDb, ?_, fun ex g => mb_eq _ _ _ _ _ hrn, fun b ex g dr hdr => ?_⟩
  · rw [hR, ← hfl]
    exact gb_drj (by simp [hj])
  · rw [← smi_all (n := 60) (L := F.reverse) hrn (fun x hx => by have := F5 x ((hrm x).mp hx); omega) (fun j _ hjF => by rw [hD0 j (fun h => hjF ((hrm j).mpr h))]; rfl), smi_sml]
    omega
  · apply Int32.toInt_inj.mp
    rw [mb_late F.reverse g (I (112 + p)) 0 (nI cn) hrn hop (by omega) (by omega) (by decide) (by rw [List.length_reverse, show (0 : Int32).toInt = 0 from rfl]; omega)]
    rw [flt_sum hn60 (fun j hj => by rw [hdr j (by omega)]; have := hDb j (by omega); omega)]
    rw [smi_all (n := nl) hrn (fun x hx => F5 x ((hrm x).mp hx)) (fun j _ hjF => by rw [hD0 j (fun h => hjF ((hrm j).mpr h))]; split <;> rfl), show (0 : Int32).toInt = 0 from rfl, Int.zero_add]
    apply fb_si_cong
    intro k hk
    rw [hdr k (by omega)]
theorem lot_sim {I : Nat → Nat → Int32} {mo nc nl ng np t e : Nat} {cd og co en : Int32} (H : az_Sim I mo nc nl ng np t) (hl : nl < 60) (hcd : az_in cd nc = true) (hog : az_in og 4 = true) (hco : 0 ≤ co.toInt ∧ co.toInt ≤ 1000) (hen : en = -1 ∨ (en = nI e ∧ mo < e ∧ e ≤ 300)) : az_Sim (az_up (az_up (az_up (az_up (az_up (az_up (az_up (az_up (az_up (az_up (az_up (az_up I 28 7 (nI (nl + 1))) 29 nl cd) 30 nl og) 31 nl co) 32 nl (nI mo)) 33 nl en) 152 17 (nI (nl + 1))) 167 nl cd) 168 nl og) 169 nl co) 170 nl (nI mo)) 171 nl (az_nv en)) mo nc (nl + 1) ng np t := by
  obtain ⟨⟨e153, e154, e155, e156, e157, e184, e185, e186, e187, e188, e189, e158, e159, e160, e161, e162, e163, e164, e165, e166, e167, e168, e169, e170, e172, e173, e174, e177, e178, e179, e180⟩, ⟨⟨n1, n2, n3⟩, ⟨n4, n5, n6⟩, ⟨n7, n8, n9⟩, ⟨n10, n11, n12⟩, ⟨n13, n14, n15⟩⟩, q3, q4, q5, q6, q7, q8, q9, q10, q11, q12, q13⟩ := H
  exact ⟨by unfold az_eqs; simp [az_upe, az_sete, e153, e154, e155, e156, e157, e184, e185, e186, e187, e188, e189, e158, e159, e160, e161, e162, e163, e164, e165, e166, e167, e168, e169, e170, e172, e173, e174, e177, e178, e179, e180], ⟨⟨by simp [az_upe, upde, n1], by simp [az_upe, upde, n2], n3⟩, ⟨by simp [az_upe, upde, n4], by simp [az_upe, upde, n5], n6⟩, ⟨by simp [az_upe, upde], by simp [az_upe, upde], by omega⟩, ⟨by simp [az_upe, upde, n10], by simp [az_upe, upde, n11], n12⟩, ⟨by simp [az_upe, upde, n13], by simp [az_upe, upde, n14], n15⟩⟩, eend_add (nl := nl) (en := en) q3 (by simp [az_upe]) (by simp [az_upe]) rfl, fr_edue (by simp [az_upe, az_sete]) (by simp [az_upe, az_sete]) (by simp [az_upe, az_sete]) (by simp [az_upe, az_sete]) q4, fr_eopn (by simp [az_upe, az_sete]) (by intro p hp; first | rfl | simp (disch := omega) only [az_up_ne, az_set_ne]) q5, fr_ebar (by simp [az_upe, az_sete]) (by simp [az_upe, az_sete]) q6, fr_vld (by simp [az_upe, az_sete]) (by simp [az_upe, az_sete]) q7, fr_vch (by simp [az_upe, az_sete]) q8, fr_vcd (by simp [az_upe, az_sete]) (by simp [az_upe, az_sete]) (by simp [az_upe, az_sete]) (by simp [az_upe, az_sete]) (by simp [az_upe, az_sete]) (by simp [az_upe, az_sete]) (by simp [az_upe, az_sete]) q9, vlt_add (en := en) (bg := nI mo) (cd := cd) (og := og) (co := co) (e := e) q10 (Nat.le_refl nc) hcd hog hco rfl hen (by simp [az_upe]) (by simp [az_upe]) (by simp [az_upe]) (by simp [az_upe]) (by simp [az_upe]), fr_vcp (by simp [az_upe, az_sete]) (by simp [az_upe, az_sete]) (by simp [az_upe, az_sete]) q11, vpy_add q12 n15 (Nat.le_refl nc) (Nat.le_succ nl) (fun j hj => by simp [az_upe, upde]; omega) (fun j hj => by simp [az_upe, upde]; omega) (by simp [az_upe]) (by simp [az_upe]) (by simp [az_upe]) (by simp [az_upe]) (by intro p hp; first | rfl | simp (disch := omega) only [az_up_ne, az_set_ne]), fr_pz (by simp [az_upe, az_sete]) (by simp [az_upe, az_sete]) q13⟩
