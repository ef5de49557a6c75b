/-! bits of a word -/
theorem bw_and (a b : Nat) : nI a &&& nI b = nI (a &&& b) := by
  apply Int32.toBitVec_inj.1
  show BitVec.ofNat 32 a &&& BitVec.ofNat 32 b = BitVec.ofNat 32 (a &&& b)
  apply BitVec.eq_of_getLsbD_eq
  intro i hi
  simp [hi]
theorem bw_or (a b : Nat) : nI a ||| nI b = nI (a ||| b) := by
  apply Int32.toBitVec_inj.1
  show BitVec.ofNat 32 a ||| BitVec.ofNat 32 b = BitVec.ofNat 32 (a ||| b)
  apply BitVec.eq_of_getLsbD_eq
  intro i hi
  simp [hi]
theorem bw_of (x : Int32) : ∃ n, n < 2 ^ 32 ∧ x = nI n := ⟨x.toBitVec.toNat, x.toBitVec.isLt, Int32.toBitVec_inj.mp (by show _ = BitVec.ofNat 32 _; simp)⟩
theorem bw_inj {a b : Nat} (ha : a < 2 ^ 32) (hb : b < 2 ^ 32) (h : nI a = nI b) : a = b := by
  have h1 := congrArg Int32.toBitVec h
  have h2 : BitVec.ofNat 32 a = BitVec.ofNat 32 b := h1
  have h3 := congrArg BitVec.toNat h2
  rw [BitVec.toNat_ofNat, BitVec.toNat_ofNat, Nat.mod_eq_of_lt ha, Nat.mod_eq_of_lt hb] at h3
  exact h3
theorem bw_cnt : ∀ j : Fin 32, (UInt32.ofNat j.val &&& Int32.toUInt32 31).toNat % 32 = j.val := by decide +kernel
theorem bw_ush {k j : Nat} (hk : k < 2 ^ 32) (hj : j < 32) : ((nI k).toUInt32 >>> ((nI j).toUInt32 &&& Int32.toUInt32 31)).toInt32 = nI (k / 2 ^ j) := by
  have hs : k / 2 ^ j ≤ k := Nat.div_le_self _ _
  have e2 : UInt32.ofNat k >>> (UInt32.ofNat j &&& Int32.toUInt32 31) = UInt32.ofNat (k / 2 ^ j) := by
    apply UInt32.toNat_inj.1
    have h1 : (UInt32.ofNat k).toNat = k := Nat.mod_eq_of_lt hk
    have h2 : (UInt32.ofNat (k / 2 ^ j)).toNat = k / 2 ^ j := Nat.mod_eq_of_lt (Nat.lt_of_le_of_lt hs hk)
    rw [UInt32.toNat_shiftRight, bw_cnt ⟨j, hj⟩, h1, h2, Nat.shiftRight_eq_div_pow]
  show (UInt32.ofNat k >>> (UInt32.ofNat j &&& Int32.toUInt32 31)).toInt32 = _
  rw [e2]
  rfl
theorem land8 {a m r M : Nat} (ha : a < 256) (hm : m < 256) : (256 * r + a) &&& (256 * M + m) = 256 * (r &&& M) + (a &&& m) := by
  apply Nat.eq_of_testBit_eq
  intro i
  have h1 : a &&& m < 2 ^ 8 := Nat.and_lt_two_pow a (show m < 2 ^ 8 from hm)
  rw [Nat.testBit_and, show (256 : Nat) = 2 ^ 8 from rfl, Nat.testBit_two_pow_mul_add _ (show a < 2 ^ 8 from ha), Nat.testBit_two_pow_mul_add _ (show m < 2 ^ 8 from hm), Nat.testBit_two_pow_mul_add _ h1]
  split
  · rw [Nat.testBit_and]
  · rw [Nat.testBit_and]
def bs1 (a : Nat) : Nat := a - (a / 2 &&& 85)
def bs2 (a : Nat) : Nat := (a &&& 51) + (a / 4 &&& 51)
theorem bT1 {a r M : Nat} (ha : a < 256) : (256 * r + a) - ((256 * r + a) / 2 &&& (256 * M + 85)) = 256 * (r - (r / 2 &&& M)) + bs1 a := by
  have h : ∀ q, q < 2 → ∀ a, a < 256 → (128 * q + a / 2) &&& 85 = a / 2 &&& 85 := by decide +kernel
  have e1 : (256 * r + a) / 2 = 256 * (r / 2) + (128 * (r % 2) + a / 2) := by omega
  rw [e1, land8 (by omega) (by decide), h _ (by omega) a ha]
  have h2 : r / 2 &&& M ≤ r / 2 := Nat.and_le_left
  have h3 : a / 2 &&& 85 ≤ a / 2 := Nat.and_le_left
  unfold bs1
  omega
theorem bT2 {a r M : Nat} (ha : a < 256) : ((256 * r + a) &&& (256 * M + 51)) + ((256 * r + a) / 4 &&& (256 * M + 51)) = 256 * ((r &&& M) + (r / 4 &&& M)) + bs2 a := by
  have h : ∀ q, q < 4 → ∀ a, a < 256 → (64 * q + a / 4) &&& 51 = a / 4 &&& 51 := by decide +kernel
  have e1 : (256 * r + a) / 4 = 256 * (r / 4) + (64 * (r % 4) + a / 4) := by omega
  rw [e1, land8 ha (by decide), land8 (by omega) (by decide), h _ (by omega) a ha]
  unfold bs2
  omega
theorem bT3 {a r M : Nat} (ha : a ≤ 68) (hr : r % 16 ≤ 4) : ((256 * r + a) + (256 * r + a) / 16) &&& (256 * M + 15) = 256 * ((r + r / 16) &&& M) + ((a + a / 16) &&& 15) := by
  have e1 : (256 * r + a) + (256 * r + a) / 16 = 256 * (r + r / 16) + (16 * (r % 16) + a + a / 16) := by omega
  rw [e1, land8 (by omega) (by decide)]
  congr 1
  rw [show (15 : Nat) = 2 ^ 4 - 1 from rfl, Nat.and_two_pow_sub_one_eq_mod, Nat.and_two_pow_sub_one_eq_mod]
  omega
def bP (a : Nat) : Nat := (bs2 (bs1 a) + bs2 (bs1 a) / 16) &&& 15
theorem bs_ok : ∀ a, a < 256 → bs1 a < 256 ∧ bs2 (bs1 a) ≤ 68 ∧ bs2 (bs1 a) % 16 ≤ 4 ∧ bP a ≤ 8 ∧ bP a = fb_ct (fun i => a.testBit i) 8 := by decide +kernel
def pcN (N : Nat) : Nat := fb_ct (fun i => N.testBit i) 32
theorem pcN_8 {a r n : Nat} (ha : a < 256) : fb_ct (fun i => (256 * r + a).testBit i) (8 + n) = fb_ct (fun i => a.testBit i) 8 + fb_ct (fun i => r.testBit i) n := by
  rw [fb_ct_split]
  congr 1
  · apply fb_ct_cong
    intro k hk
    rw [show (256 : Nat) = 2 ^ 8 from rfl, Nat.testBit_two_pow_mul_add _ (show a < 2 ^ 8 from ha), if_pos hk]
  · apply fb_ct_cong
    intro k hk
    show (256 * r + a).testBit (8 + k) = _
    rw [show (256 : Nat) = 2 ^ 8 from rfl, Nat.testBit_two_pow_mul_add _ (show a < 2 ^ 8 from ha), if_neg (by omega), show 8 + k - 8 = k by omega]
theorem bc_sum {x0 x1 x2 x3 : Nat} (h0 : x0 ≤ 8) (h1 : x1 ≤ 8) (h2 : x2 ≤ 8) (h3 : x3 ≤ 8) : ((256 * (256 * (256 * x3 + x2) + x1) + x0) + (256 * (256 * (256 * x3 + x2) + x1) + x0) / 256 + ((256 * (256 * (256 * x3 + x2) + x1) + x0) + (256 * (256 * (256 * x3 + x2) + x1) + x0) / 256) / 65536) % 64 = x0 + (x1 + (x2 + x3)) := by
  have e1 : (256 * (256 * (256 * x3 + x2) + x1) + x0) / 256 = 256 * (256 * x3 + x2) + x1 := by omega
  rw [e1]
  have e2 : (256 * (256 * (256 * x3 + x2) + x1) + x0 + (256 * (256 * x3 + x2) + x1)) / 65536 = 256 * x3 + x2 + x3 := by omega
  rw [e2]
  omega
/-- the steps of the count -/
def bc1 (N : Nat) : Nat := N - (N / 2 &&& 1431655765)
def bc2 (N : Nat) : Nat := (N &&& 858993459) + (N / 4 &&& 858993459)
def bc3 (N : Nat) : Nat := (N + N / 16) &&& 252645135
theorem bc_ok {N : Nat} (hN : N < 2 ^ 32) : ((bc3 (bc2 (bc1 N)) + bc3 (bc2 (bc1 N)) / 256) + (bc3 (bc2 (bc1 N)) + bc3 (bc2 (bc1 N)) / 256) / 65536) &&& 63 = pcN N := by
  obtain ⟨b0, b1, b2, b3, h0, h1, h2, h3, rfl⟩ : ∃ b0 b1 b2 b3 : Nat, b0 < 256 ∧ b1 < 256 ∧ b2 < 256 ∧ b3 < 256 ∧ N = 256 * (256 * (256 * b3 + b2) + b1) + b0 :=
    ⟨N % 256, N / 256 % 256, N / 65536 % 256, N / 16777216, by omega, by omega, by omega, by omega, by omega⟩
  obtain ⟨p0, q0, r0, t0, u0⟩ := bs_ok b0 h0
  obtain ⟨p1, q1, r1, t1, u1⟩ := bs_ok b1 h1
  obtain ⟨p2, q2, r2, t2, u2⟩ := bs_ok b2 h2
  obtain ⟨p3, q3, r3, t3, u3⟩ := bs_ok b3 h3
  have e1 : bc1 (256 * (256 * (256 * b3 + b2) + b1) + b0) = 256 * (256 * (256 * bs1 b3 + bs1 b2) + bs1 b1) + bs1 b0 := by
    unfold bc1
    rw [show (1431655765 : Nat) = 256 * (256 * (256 * 85 + 85) + 85) + 85 from rfl, bT1 h0, bT1 h1, bT1 h2]
    rfl
  have e2 : bc2 (256 * (256 * (256 * bs1 b3 + bs1 b2) + bs1 b1) + bs1 b0) = 256 * (256 * (256 * bs2 (bs1 b3) + bs2 (bs1 b2)) + bs2 (bs1 b1)) + bs2 (bs1 b0) := by
    unfold bc2
    rw [show (858993459 : Nat) = 256 * (256 * (256 * 51 + 51) + 51) + 51 from rfl, bT2 p0, bT2 p1, bT2 p2]
    rfl
  have e3 : bc3 (256 * (256 * (256 * bs2 (bs1 b3) + bs2 (bs1 b2)) + bs2 (bs1 b1)) + bs2 (bs1 b0)) = 256 * (256 * (256 * bP b3 + bP b2) + bP b1) + bP b0 := by
    unfold bc3
    rw [show (252645135 : Nat) = 256 * (256 * (256 * 15 + 15) + 15) + 15 from rfl, bT3 q0 (by omega), bT3 q1 (by omega), bT3 q2 r3]
    rfl
  rw [e1, e2, e3]
  unfold pcN
  rw [show 32 = 8 + (8 + (8 + 8)) from rfl, pcN_8 h0, pcN_8 h1, pcN_8 h2, ← u0, ← u1, ← u2, ← u3, show (63 : Nat) = 2 ^ 6 - 1 from rfl, Nat.and_two_pow_sub_one_eq_mod]
  exact bc_sum t0 t1 t2 t3
section
variable {xs : az_X} {d : Nat} {c z : Nat} {G : az_G} {K : az_O → Prop}
theorem c142 {N : Nat} (hN : N < 2 ^ 32) : az_C xs (d + 1) 87 [.int (nI N)] G K ↔ K (0, some (.int (nI (pcN N))), G) := by
  have l1 : bc1 N ≤ N := Nat.sub_le _ _
  have l2 : bc2 (bc1 N) < 2 ^ 32 := by
    have h1 : bc1 N &&& 858993459 ≤ 858993459 := Nat.and_le_right
    have h2 : bc1 N / 4 &&& 858993459 ≤ 858993459 := Nat.and_le_right
    unfold bc2
    omega
  have l3 : bc3 (bc2 (bc1 N)) ≤ 252645135 := Nat.and_le_right
  have s1 := bw_ush (k := N) (j := 1) hN (by decide)
  have s2 := bw_ush (k := bc1 N) (j := 2) (by omega) (by decide)
  have s3 := bw_ush (k := bc2 (bc1 N)) (j := 4) l2 (by decide)
  have s4 := bw_ush (k := bc3 (bc2 (bc1 N))) (j := 8) (by omega) (by decide)
  have s5 := bw_ush (k := bc3 (bc2 (bc1 N)) + bc3 (bc2 (bc1 N)) / 256) (j := 16) (by omega) (by decide)
  have n1 : nI 1 = 1 := rfl
  have n2 : nI 2 = 2 := rfl
  have n4 : nI 4 = 4 := rfl
  have n8 : nI 8 = 8 := rfl
  have n16 : nI 16 = 16 := rfl
  rw [n1] at s1
  rw [n2] at s2
  rw [n4] at s3
  rw [n8] at s4
  rw [n16] at s5
  have t1 : nI N - (nI (N / 2 ^ 1) &&& 1431655765) = nI (bc1 N) := by
    rw [show (1431655765 : Int32) = nI 1431655765 from rfl, bw_and, bz_sub (Nat.le_trans Nat.and_le_left (Nat.div_le_self _ _))]
    rfl
  have t2 : (nI (bc1 N) &&& 858993459) + (nI (bc1 N / 2 ^ 2) &&& 858993459) = nI (bc2 (bc1 N)) := by
    rw [show (858993459 : Int32) = nI 858993459 from rfl, bw_and, bw_and, bz_add]
    rfl
  have t3 : (nI (bc2 (bc1 N)) + nI (bc2 (bc1 N) / 2 ^ 4)) &&& 252645135 = nI (bc3 (bc2 (bc1 N))) := by
    rw [show (252645135 : Int32) = nI 252645135 from rfl, bz_add, bw_and]
    rfl
  have t4 : nI (bc3 (bc2 (bc1 N))) + nI (bc3 (bc2 (bc1 N)) / 2 ^ 8) = nI (bc3 (bc2 (bc1 N)) + bc3 (bc2 (bc1 N)) / 256) := by
    rw [bz_add]
  have t5 : (nI (bc3 (bc2 (bc1 N)) + bc3 (bc2 (bc1 N)) / 256) + nI ((bc3 (bc2 (bc1 N)) + bc3 (bc2 (bc1 N)) / 256) / 2 ^ 16)) &&& 63 = nI (pcN N) := by
    rw [show (63 : Int32) = nI 63 from rfl, bz_add, bw_and, ← bc_ok hN]
  simp (maxDischargeDepth := 7) only [C87, th87, s87_0, s87_1, s87_2, s87_3, s87_4, s87_7, s87_8, s87_9, s87_10, s87_11, s87_14, s87_15, s87_16, s87_17, s87_18, s87_21, s87_22, s87_23, s87_24, s87_25, s87_26, s87_27, s87_28, s87_29, s87_32, s87_33, s87_34, s87_35, s87_36, s87_38, s87_39, s87_40, s87_41, s87_42, s87_43, s87_45, s87_46, s87_47, s87_48, s87_49, s87_51, s87_52, az_ex, az_bk0, az_bk1, az_bkx, az_cat0, az_cati, az_catr, az_catl, az_vi, az_vr, az_bo0, az_bo1, az_boi, true_and, and_true, if_true, if_false, ne_eq, not_true_eq_false, not_false_eq_true, List.set_cons_zero, List.set_cons_succ, Nat.reduceAdd, Nat.reduceLeDiff, Nat.reduceEqDiff, ↓reduceIte, reduceCtorEq, Nat.reduceSub, Nat.reduceMul, Int32.reduceLT, Int32.reduceLE, Int32.reduceAdd, Int32.reduceMul, Int32.reduceSub, az_ne10, az_ne20, az_ne30, Nat.zero_le, s1, t1, s2, t2, s3, t3, s4, t4, s5, t5]
end
