/-! from the invariant: what areKept asks -/
theorem sm_add {w : Nat → Bool} {g h : Nat → Int32} : ∀ {n : Nat}, sm w (fun j => g j + h j) n = sm w g n + sm w h n
  | 0 => by show (0 : Int32) = 0 + 0; rfl
  | n + 1 => by
    rw [sm_s, sm_s, sm_s, sm_add (n := n)]
    split <;> grind
theorem sm_one {g : Nat → Int32} {v : Int32} {i : Nat} : ∀ {m : Nat}, i < m → g i = v → (∀ k, k < m → k ≠ i → g k = 0) → sm (fun _ => true) g m = v
  | 0, h, _, _ => absurd h (Nat.not_lt_zero i)
  | m + 1, h, e, hz => by
    rw [sm_s, if_pos rfl]
    rcases Nat.lt_or_ge i m with q | q
    · rw [sm_one q e (fun k hk => hz k (by omega)), hz m (by omega) (by omega)]
      grind
    · obtain rfl : i = m := by omega
      rw [sm_zero (fun k hk _ => hz k (by omega) (by omega)), e]
      grind
/-- each lot is in just one of m heaps -/
theorem sm_swap {W : Nat → Nat → Bool} {g : Nat → Int32} {m : Nat} : ∀ {n : Nat}, (∀ j, j < n → ∃ i, i < m ∧ W i j = true ∧ ∀ k, k < m → k ≠ i → W k j = false) → sm (fun _ => true) (fun k => sm (W k) g n) m = sm (fun _ => true) g n
  | 0, _ => sm_zero fun _ _ _ => rfl
  | n + 1, h => by
    have e : sm (fun _ => true) (fun k => sm (W k) g (n + 1)) m = sm (fun _ => true) (fun k => sm (W k) g n + (if W k n = true then g n else 0)) m := rfl
    rw [e, sm_add (g := fun k => sm (W k) g n) (h := fun k => if W k n = true then g n else 0), sm_swap (fun j hj => h j (by omega)), sm_s, if_pos rfl]
    obtain ⟨i, h1, h2, h3⟩ := h n (by omega)
    rw [sm_one (i := i) (v := g n) h1 (by show (if W i n = true then g n else 0) = g n; rw [if_pos h2]) (fun k hk hki => by show (if W k n = true then g n else 0) = 0; rw [h3 k hk hki]; rfl)]
section
variable {s : St} {mo nc nl ng np t : Nat}
theorem PA_left (H : PA s mo nc nl ng np t) : ∀ j, j < nl → 0 ≤ (s 31 j).toInt ∧ (s 31 j).toInt ≤ 1000 := by
  intro j hj
  have h0 := (H.1.2.2.2.2.2.1 j hj).2.2.1.1
  have h9 := H.2.2.2.2.2.2.2.2.2 j hj
  have hp : 0 ≤ fb_si (fun p => (s (112 + p) j).toInt) np := fb_si_nn fun p hp => ((H.1.2.2.2.2.2.2.2 p hp).2.choose_spec.2.2.1 j (by have := H.1.1.2.2.1.2; omega)).1
  exact ⟨h0, by omega⟩
def bkv (s : St) (x : Int32) (j : Nat) : Int32 := if s 30 j = 0 then (if s 33 j = -1 then 0 else s 31 j * (s 0 6 - s 32 j) * s 7 x.toNatClampNeg / (100 * (s 33 j - s 32 j))) else 0
theorem bookS_sm (h : s 28 7 = nI nl) (hn : nl ≤ 60) (x : Int32) : bookS s x = sm (fun j => decide (s 19 (s 29 j).toNatClampNeg = x)) (bkv s x) nl := by
  have : nlN s = nl := by unfold nlN; rw [h, nI_clamp (by omega)]
  unfold bookS
  rw [this]
  have e := sm_fd (w := fun j => decide (s 19 (s 29 j).toNatClampNeg = x)) (g := bkv s x) (v := 0) nl
  have e2 : fd (fbk (s 19) (s 29) (s 30) (s 31) (s 32) (s 33) (s 0 6) (s 7 x.toNatClampNeg) x) nl 0 0 = fd (fun j v => if decide (s 19 (s 29 j).toNatClampNeg = x) = true then v + bkv s x j else v) nl 0 0 := fd_cg (n := nl) (fun j v hj => by
    unfold fbk bkv
    by_cases h : s 19 (s 29 j).toNatClampNeg = x
    · by_cases h2 : s 30 j = 0
      · by_cases h3 : s 33 j = -1
        · simp [h, h2, h3]
        · simp [h, h2, h3]
      · simp [h, h2]
    · simp [h]) nl 0 0 (Nat.zero_add _)
  rw [e2, e]
  grind
theorem bkv_bd (H : PA s mo nc nl ng np t) {x : Int32} (hx : az_in x 4 = true) : ∀ j, j < nl → 0 ≤ (bkv s x j).toInt ∧ (bkv s x j).toInt ≤ (s 31 j).toInt ∧ (s 31 j).toInt ≤ 1000 := by
  intro j hj
  obtain ⟨l1, l2⟩ := PA_left H j hj
  refine ⟨?_, ?_, l2⟩ <;> unfold bkv
  all_goals
    by_cases h2 : s 30 j = 0
    · rw [if_pos h2]
      by_cases h3 : s 33 j = -1
      · rw [if_pos h3]
        first | exact Int.le_refl 0 | exact l1
      · rw [if_neg h3]
        obtain ⟨n, hn, en⟩ : ∃ n : Nat, n ≤ 1000 ∧ s 31 j = nI n := ⟨(s 31 j).toInt.toNat, by omega, by apply Int32.toInt_inj.mp; rw [nI_toInt (by omega)]; omega⟩
        rw [en] at l1 l2 ⊢
        by_cases hn0 : n = 0
        · subst hn0
          have : nI 0 * (s 0 6 - s 32 j) * s 7 x.toNatClampNeg = 0 := by show (0 : Int32) * _ * _ = 0; grind
          rw [this]
          have : ∀ q : Int32, (0 : Int32) / q = 0 := fun q => Int32.zero_div
          rw [this]
          decide
        · obtain ⟨b1, b2⟩ := H.2.2.1 j hj
          obtain ⟨b, eb, hb⟩ := b1
          rw [en, nI_toInt (by omega)] at b2
          have hm := (b2 (by omega)).resolve_left h3
          obtain ⟨b', e', eb', he'⟩ := (H.1.2.2.2.2.2.1 j hj).2.2.2
          obtain ⟨he, hbe, he3⟩ := he'.resolve_left h3
          rw [he, nI_toInt (by omega)] at hm
          have hxx := (az_in_k hx).1
          obtain ⟨r1, r2⟩ := H.2.1 _ hxx
          obtain ⟨rt, hrt, ert⟩ : ∃ r : Nat, r ≤ 100 ∧ s 7 x.toNatClampNeg = nI r := ⟨(s 7 x.toNatClampNeg).toInt.toNat, by omega, by apply Int32.toInt_inj.mp; rw [nI_toInt (by omega)]; omega⟩
          rw [eb, he, ert, show s 0 6 = nI mo from H.1.1.1.1, bz_sub (show b ≤ mo by omega), bz_sub (show b ≤ e' by omega), show (100 : Int32) = nI 100 from rfl, bz_mul, bz_mul, bz_mul]
          have h1 : n * (mo - b) ≤ 1000 * 300 := Nat.mul_le_mul hn (by omega)
          have h4 : n * (mo - b) * rt ≤ 1000 * 300 * 100 := Nat.mul_le_mul h1 hrt
          rw [bz_div (by omega) (by omega)]
          have h5 : n * (mo - b) * rt / (100 * (e' - b)) ≤ n := by
            have h6 : n * (mo - b) * rt ≤ (100 * (e' - b)) * n := by
              have a1 : n * (mo - b) * rt ≤ n * (mo - b) * 100 := Nat.mul_le_mul_left _ hrt
              have a2 : n * (mo - b) ≤ n * (e' - b) := Nat.mul_le_mul_left _ (by omega)
              have a3 : n * (mo - b) * 100 ≤ n * (e' - b) * 100 := Nat.mul_le_mul_right _ a2
              have a4 : n * (e' - b) * 100 = (100 * (e' - b)) * n := by rw [Nat.mul_comm n, Nat.mul_assoc, Nat.mul_comm n 100, ← Nat.mul_assoc, Nat.mul_comm (e' - b) 100]
              omega
            exact Nat.div_le_of_le_mul h6
          generalize n * (mo - b) * rt / (100 * (e' - b)) = Q at h5 ⊢
          rw [nI_toInt (by omega)]
          first | exact Int.natCast_nonneg Q | (rw [nI_toInt (by omega)]; exact Int.ofNat_le.mpr h5)
    · rw [if_neg h2]
      first | exact Int.le_refl 0 | exact l1
theorem enE_nv {x : Int32} (h : az_eb x) : (if x < 0 then (9999 : Int32) else x).toInt = if x = -1 then 9999 else x.toInt := by
  rcases h with rfl | ⟨e, he, rfl⟩
  · decide
  · have h1 : ¬ nI e < 0 := by rw [az_lt0, nI_toInt (by omega)]; omega
    have h2 : ¬ nI e = -1 := by rw [bz_n2 he]; exact id
    rw [if_neg h1, if_neg h2]
theorem KF_of (H : PA s mo nc nl ng np t) : KF s mo nc nl np := by
  have hn9 := H.1.1.2.2.1
  have hn6 := H.1.1.2.1
  have hn15 := H.1.1.2.2.2.2
  have hnl : nlN s = nl := by unfold nlN; rw [hn9.1, nI_clamp (by omega)]
  have hnp : npN s = np := by unfold npN; rw [hn15.1, nI_clamp (by omega)]
  have hlt := H.1.2.2.2.2.2.1
  have hE := vlt_eb hlt
  have hL := PA_left H
  have hB : nl * 1000 < 2 ^ 31 := by have : nl * 1000 ≤ 60 * 1000 := Nat.mul_le_mul_right _ hn9.2; omega
  have hlf : ∀ x, leftS s x = lft s nl x := leftS_lft hn9.1 hn9.2 (fun j hj => (hlt j hj).2.1)
  have hnt : ∀ x, netS s x = ntt s np x := netS_nt hn15.1 hn15.2
  have hbl : ∀ x, balS s x = sm (fun j => decide (s 29 j = x)) (s 31) nl := balS_sm hn9.1 hn9.2
  refine ⟨fun ch hch => ?_, fun k hk => ?_, fun p hp => ?_, ?_⟩
  · have hx : az_in (nI ch) 4 = true := by rw [az_in_nI (by omega)]; simp [hch]
    have h8 := H.2.2.2.2.2.2.2.2.1 ch hch
    have hb := bookS_sm hn9.1 hn9.2 (nI ch)
    rw [hlf, hnt, hb]
    obtain ⟨b1, b2⟩ := sm_bd (w := fun j => decide (s 19 (s 29 j).toNatClampNeg = nI ch)) (g := s 31) (B := 1000) hL hB
    have hbb := bkv_bd H hx
    obtain ⟨c1, c2⟩ := sm_bd (w := fun j => decide (s 19 (s 29 j).toNatClampNeg = nI ch)) (g := bkv s (nI ch)) (B := 1000) (fun j hj => by have := hbb j hj; omega) hB
    have c3 := sm_le (w := fun j => decide (s 19 (s 29 j).toNatClampNeg = nI ch)) hbb hB
    refine ⟨?_, ?_, h8, ?_, ?_, ?_⟩
    · rw [az_lt0]; unfold lft; omega
    · unfold anewS
      rw [hnt]
      grind
    · rw [az_lt0]; omega
    · rw [Int32.lt_iff_toInt_lt]; unfold lft; omega
    · by_cases hd : s 6 ch = 0
      · exact Or.inl hd
      · refine Or.inr (sm_zero fun j hj hw => ?_)
        refine H.2.2.2.2.2.1 j hj ?_
        have : s 19 (s 29 j).toNatClampNeg = nI ch := of_decide_eq_true hw
        rw [this, nI_clamp (by omega)]
        exact hd
  · obtain ⟨o1, o2⟩ := ordR_spec (lt := ltS s) ltb_t ltb_tot (P := pOn (s 29) (s 31) (nI k)) (n := nl)
    have hmem : ∀ y, y ∈ ordS s (nI k) ↔ y < nl ∧ pOn (s 29) (s 31) (nI k) y = true := fun y => by unfold ordS; rw [hnl, List.mem_reverse]; exact o1 y
    have hEE : ∀ y, y < nl → (enE s y).toInt = if s 33 y = -1 then 9999 else (s 33 y).toInt := fun y hy => enE_nv (hE y hy)
    refine ⟨fun y hy => ?_, ?_, ?_, ?_, ?_, ?_⟩
    · obtain ⟨h1, h2⟩ := (hmem y).mp hy
      obtain ⟨h3, h4⟩ := of_decide_eq_true h2
      refine ⟨h1, h3, h4, ?_⟩
      rw [Int32.lt_iff_toInt_lt, hEE y h1, nI_toInt (by have := H.1.1.1.2; omega)]
      have hm := H.1.1.1.2
      by_cases h5 : s 33 y = -1
      · rw [if_pos h5]; omega
      · rw [if_neg h5]
        exact ((H.2.2.1 y h1).2 (by have := Int32.lt_iff_toInt_lt.mp h4; exact this)).resolve_left h5
    · unfold ordS
      rw [hnl]
      refine List.pairwise_reverse.mpr ?_
      have hm2 : ∀ y, y ∈ ordR (ltS s) (pOn (s 29) (s 31) (nI k)) nl → y < nl := fun y hy => ((o1 y).mp hy).1
      refine List.Pairwise.imp_of_mem (fun {a b} ha hb hab => ?_) o2
      rw [Int32.le_iff_toInt_le, hEE b (hm2 b hb), hEE a (hm2 a ha)]
      have h1 := ltb_iff.mp hab
      have hv : ∀ y, y < nl → (az_nv (s 33 y)).toInt = if s 33 y = -1 then 100000 else (s 33 y).toInt := fun y _ => by unfold az_nv; split <;> rfl
      have hr : ∀ y, y < nl → s 33 y ≠ -1 → (s 33 y).toInt ≤ 300 := fun y hy hne => by
        obtain ⟨e, he, ee⟩ := (hE y hy).resolve_left hne
        rw [ee, nI_toInt (by omega)]; omega
      have h2 := hv a (hm2 a ha)
      have h3 := hv b (hm2 b hb)
      have h4 := hr a (hm2 a ha)
      have h5 := hr b (hm2 b hb)
      simp only [h2, h3] at h1
      by_cases q1 : s 33 a = -1 <;> by_cases q2 : s 33 b = -1 <;> simp only [q1, q2, if_true, if_false] at h1 ⊢ <;> first | omega | (have := h4 q1; omega) | (have := h5 q2; omega)
    · show sl (s 31) (ordS s (nI k)) = _
      unfold ordS
      rw [hnl, sl_rev, sl_ord, hbl]
      refine sm_cg fun j hj => ?_
      unfold pOn
      by_cases h1 : s 29 j = nI k
      · by_cases h2 : 0 < s 31 j
        · simp [h1, h2]
        · have h3 : s 31 j = 0 := by
            have h4 : ¬ 0 < (s 31 j).toInt := fun q => h2 (Int32.lt_iff_toInt_lt.mpr q)
            have := (hL j hj).1
            apply Int32.toInt_inj.mp
            show (s 31 j).toInt = 0
            omega
          simp [h1, h3]
      · simp [h1]
    · have h24 := (H.1.2.2.2.2.1.1 k hk).2.2.2.1
      rcases bz_m3 h24 with h | h | h
      · left; rw [h]; decide
      · left; rw [h]; decide
      · right
        rw [hbl]
        refine sm_zero fun j hj hw => ?_
        have h1 : s 29 j = nI k := of_decide_eq_true hw
        have h2 := H.2.2.2.1.1 j hj
        rw [h1, nI_clamp (by omega)] at h2
        exact absurd h h2
    · have e2 : mkS s (nI k) false = sm (fun p => decide (s 107 p = nI k) && decide ((decide (1 < s 0 6 - s 110 p)) = false)) (fun p => s 109 p / 10) np := by
        unfold mkS
        rw [hnp]
        have e := sm_fd (w := fun p => decide (s 107 p = nI k) && decide ((decide (1 < s 0 6 - s 110 p)) = false)) (g := fun p => s 109 p / 10) (v := 0) np
        have e3 : fd (fmk (s 107) (s 110) (s 109) (s 0 6) (nI k) false) np 0 0 = fd (fun p v => if (decide (s 107 p = nI k) && decide ((decide (1 < s 0 6 - s 110 p)) = false)) = true then v + s 109 p / 10 else v) np 0 0 := fd_cg (n := np) (fun p v hp => by
          unfold fmk
          by_cases h : s 107 p = nI k <;> by_cases h2 : 1 < s 0 6 - s 110 p <;> simp [h, h2]) np 0 0 (Nat.zero_add _)
        rw [e3, e]
        grind
      have hb : np * 100 < 2 ^ 31 := by have : np * 100 ≤ 40 * 100 := Nat.mul_le_mul_right _ hn15.2; omega
      obtain ⟨b1, b2⟩ := sm_bd (w := fun p => decide (s 107 p = nI k) && decide ((decide (1 < s 0 6 - s 110 p)) = false)) (g := fun p => s 109 p / 10) (B := 100) (n := np) (fun p hp => by
        obtain ⟨n, hn1, hn2, -⟩ := (H.1.2.2.2.2.2.2.2 p hp).2
        rw [hn2, show (10 : Int32) = nI 10 from rfl, bz_div (by omega) (by omega), nI_toInt (by omega)]
        omega) hb
      rw [e2, az_lt0]
      omega
    · obtain ⟨u, hu1, hu2⟩ := H.2.2.2.2.1 k hk
      have hm := H.1.1.1.2
      rw [hu1, show s 0 6 = nI mo from H.1.1.1.1, bz_lt (by omega) (by omega)]
      omega
  · obtain ⟨n, hn1, hn2, hn3, hn4⟩ := (H.1.2.2.2.2.2.2.2 p hp).2
    obtain ⟨m, hm1, hm2, hm3⟩ := H.2.2.2.2.2.2.1 p hp
    refine ⟨?_, ?_⟩
    · have hs : ∀ q, q ≤ nl → (fd (fun j v => v + s (112 + p) j) q 0 0).toInt = fb_si (fun j => (s (112 + p) j).toInt) q ∧ fb_si (fun j => (s (112 + p) j).toInt) q ≤ n := by
        intro q hq
        have hle : fb_si (fun j => (s (112 + p) j).toInt) q ≤ n := by
          rw [hn4, show (60 : Nat) = q + (60 - q) by omega, fb_si_split]
          have : 0 ≤ fb_si (fun k => (s (112 + p) (q + k)).toInt) (60 - q) := fb_si_nn fun k hk => (hn3 (q + k) (by omega)).1
          omega
        refine ⟨?_, hle⟩
        induction q with
        | zero => rfl
        | succ q ih =>
          have h0 : 0 ≤ fb_si (fun j => (s (112 + p) j).toInt) q := fb_si_nn fun k hk => (hn3 k (by omega)).1
          have h1 : fb_si (fun j => (s (112 + p) j).toInt) (q + 1) = fb_si (fun j => (s (112 + p) j).toInt) q + (s (112 + p) q).toInt := rfl
          have h2 := (hn3 q (by omega)).1
          rw [fd_split (h := fun j v => v + s (112 + p) j) q 1 0 0, Nat.zero_add]
          show (fd (fun j v => v + s (112 + p) j) q 0 0 + s (112 + p) q).toInt = _
          rw [Int32.toInt_add, ih (by omega) (by omega), h1, Int.bmod_eq_of_le (by omega) (by omega)]
      apply Int32.toInt_inj.mp
      rw [(hs nl (Nat.le_refl _)).1, hn2, nI_toInt (by omega), hn4, show (60 : Nat) = nl + (60 - nl) by omega, fb_si_split]
      have hz : fb_si (fun k => (s (112 + p) (nl + k)).toInt) (60 - nl) = 0 := by
        have e0 : fb_si (fun k => (s (112 + p) (nl + k)).toInt) (60 - nl) = fb_si (fun _ => 0) (60 - nl) := fb_si_cong fun k hk => by rw [(hn3 (nl + k) (by omega)).2 (by omega)]; rfl
        rw [e0]
        have : ∀ q, fb_si (fun _ => (0 : Int)) q = 0 := fun q => by
          induction q with
          | zero => rfl
          | succ q ih => show fb_si (fun _ => (0 : Int)) q + 0 = 0; omega
        exact this _
      omega
    · rw [hm1, Int32.lt_iff_toInt_lt, nI_toInt (by omega)]
      omega
  · have e1 := sm_fd (w := fun _ => true) (g := fun k => balS s (nI k)) (v := 0) nc
    have e2 : fd (fun k v => v + balS s (nI k)) nc 0 0 = fd (fun k v => if (true = true) then v + balS s (nI k) else v) nc 0 0 := rfl
    rw [e2, e1]
    have e3 : sm (fun _ => true) (fun k => balS s (nI k)) nc = sm (fun _ => true) (s 31) nl := by
      rw [show (fun k => balS s (nI k)) = fun k => sm (fun j => decide (s 29 j = nI k)) (s 31) nl from funext fun k => hbl (nI k)]
      refine sm_swap (W := fun k j => decide (s 29 j = nI k)) fun j hj => ?_
      obtain ⟨h1, h2⟩ := az_in_k (hlt j hj).1
      refine ⟨_, h1, by simp [← h2], fun k hk hne => ?_⟩
      rw [decide_eq_false_iff_not, h2, bz_eq (by omega) (by omega)]
      omega
    have e4 : sm (fun _ => true) (fun ch => lft s nl (nI ch)) 4 = sm (fun _ => true) (s 31) nl := by
      refine sm_swap (W := fun ch j => decide (s 19 (s 29 j).toNatClampNeg = nI ch)) fun j hj => ?_
      have h0 := (az_in_k (hlt j hj).1).1
      obtain ⟨h1, h2⟩ := az_in_k (H.1.2.2.2.2.1.1 _ h0).1.1
      refine ⟨_, h1, by simp [← h2], fun k hk hne => ?_⟩
      rw [decide_eq_false_iff_not, h2, bz_eq (by omega) (by omega)]
      omega
    rw [e3, ← e4, hlf, hlf, hlf, hlf]
    show 0 + (0 + lft s nl (nI 0) + lft s nl (nI 1) + lft s nl (nI 2) + lft s nl (nI 3)) = _
    grind
end
