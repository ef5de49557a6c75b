def az_S : List az_Shp := [(0, 6, [some (some 1), some (some 5), some (some 18), some (some 28), some (some 36), some (some 106), none])] ++ ([(0, 3, [some (some 2), some (some 3), some (some 4)])] ++ ([(1, 3, [])] ++ ([(1, 3, [])] ++ ([(1, 3, [])] ++ ([(0, 2, [some (some 6), some (some 7), some (some 8), some (some 9), some (some 10), some (some 11), some (some 12), some (some 13), some (some 14)])] ++ ([(2, 4, [])] ++ ([(1, 4, [])] ++ ([(1, 4, [])] ++ ([(1, 4, [])] ++ ([(1, 4, [])] ++ ([(1, 4, [])] ++ ([(1, 4, [])] ++ ([(1, 4, [])] ++ ([(4, 3, (List.range 3).map fun j => some (some (15 + j)))] ++ (List.replicate 3 (1, 4, []) ++ ([(0, 1, [some (some 19), some (some 20), some (some 21), some (some 22), some (some 23), some (some 24), some (some 25), some (some 26), some (some 27), none])] ++ ([(1, 12, [])] ++ ([(1, 12, [])] ++ ([(1, 12, [])] ++ ([(1, 12, [])] ++ ([(1, 12, [])] ++ ([(1, 12, [])] ++ ([(1, 12, [])] ++ ([(1, 12, [])] ++ ([(1, 12, [])] ++ ([(0, 4, [some (some 29), some (some 30), some (some 31), some (some 32), some (some 33), some (some 34), some (some 35), none])] ++ ([(1, 60, [])] ++ ([(1, 60, [])] ++ ([(1, 60, [])] ++ ([(1, 60, [])] ++ ([(1, 60, [])] ++ ([(1, 60, [])] ++ ([(1, 60, [])] ++ ([(0, 0, [some (some 37), some (some 38), some (some 39), some (some 40), some (some 41), none, none, none])] ++ ([(2, 6, [])] ++ ([(1, 6, [])] ++ ([(1, 6, [])] ++ ([(1, 6, [])] ++ ([(4, 64, (List.range 64).map fun j => some (some (42 + j)))] ++ (List.replicate 64 (1, 32, []) ++ ([(0, 5, [some (some 107), some (some 108), some (some 109), some (some 110), some (some 111), none])] ++ ([(1, 40, [])] ++ ([(1, 40, [])] ++ ([(1, 40, [])] ++ ([(1, 40, [])] ++ ([(4, 40, (List.range 40).map fun j => some (some (112 + j)))] ++ (List.replicate 40 (1, 60, []) ++ ([(0, 6, [some (some 153), some (some 157), some (some 170), some (some 180), some (some 188), some (some 258), none])] ++ ([(0, 3, [some (some 154), some (some 155), some (some 156)])] ++ ([(1, 3, [])] ++ ([(1, 3, [])] ++ ([(1, 3, [])] ++ ([(0, 2, [some (some 158), some (some 159), some (some 160), some (some 161), some (some 162), some (some 163), some (some 164), some (some 165), some (some 166)])] ++ ([(2, 4, [])] ++ ([(1, 4, [])] ++ ([(1, 4, [])] ++ ([(1, 4, [])] ++ ([(1, 4, [])] ++ ([(1, 4, [])] ++ ([(1, 4, [])] ++ ([(1, 4, [])] ++ ([(4, 3, (List.range 3).map fun j => some (some (167 + j)))] ++ (List.replicate 3 (1, 4, []) ++ ([(0, 1, [some (some 171), some (some 172), some (some 173), some (some 174), some (some 175), some (some 176), some (some 177), some (some 178), some (some 179), none])] ++ ([(1, 12, [])] ++ ([(1, 12, [])] ++ ([(1, 12, [])] ++ ([(1, 12, [])] ++ ([(1, 12, [])] ++ ([(1, 12, [])] ++ ([(1, 12, [])] ++ ([(1, 12, [])] ++ ([(1, 12, [])] ++ ([(0, 4, [some (some 181), some (some 182), some (some 183), some (some 184), some (some 185), some (some 186), some (some 187), none])] ++ ([(1, 60, [])] ++ ([(1, 60, [])] ++ ([(1, 60, [])] ++ ([(1, 60, [])] ++ ([(1, 60, [])] ++ ([(1, 60, [])] ++ ([(1, 60, [])] ++ ([(0, 0, [some (some 189), some (some 190), some (some 191), some (some 192), some (some 193), none, none, none])] ++ ([(2, 6, [])] ++ ([(1, 6, [])] ++ ([(1, 6, [])] ++ ([(1, 6, [])] ++ ([(4, 64, (List.range 64).map fun j => some (some (194 + j)))] ++ (List.replicate 64 (1, 32, []) ++ ([(0, 5, [some (some 259), some (some 260), some (some 261), some (some 262), some (some 263), none])] ++ ([(1, 40, [])] ++ ([(1, 40, [])] ++ ([(1, 40, [])] ++ ([(1, 40, [])] ++ ([(4, 40, (List.range 40).map fun j => some (some (264 + j)))] ++ (List.replicate 40 (1, 60, []))))))))))))))))))))))))))))))))))))))))))))))))))))))))))))))))))))))))))))))))))))))))))))))))
theorem az_S_len : az_S.length = 304 := by decide +kernel
theorem az_gfr {S : List az_Shp} {I : Nat → Nat → Int32} {a ci j : Nat} {sl : List (Option (Option Nat))} {r : Nat} (h : S[a]? = some (0, ci, sl)) (h2 : sl[j]? = some (some (some r))) : az_gfl S I a ci j = some (.ref r) := by
  simp [az_gfl, h, h2]
theorem az_gfi {S : List az_Shp} {I : Nat → Nat → Int32} {a ci j : Nat} {sl : List (Option (Option Nat))} (h : S[a]? = some (0, ci, sl)) (h2 : sl[j]? = some none) : az_gfl S I a ci j = some (.int (I a j)) := by
  simp [az_gfl, h, h2]
theorem az_isa {S : List az_Shp} {kd a n : Nat} {sl : List (Option (Option Nat))} {i : Int32} (h : S[a]? = some (kd, n, sl)) : az_isA S kd a i = az_in i n := by
  unfold az_isA
  rw [h]
  simp
theorem az_rwo {S : List az_Shp} {a n b : Nat} {i : Int32} (h : S[a]? = some (4, n, (List.range n).map fun j => some (some (b + j)))) (hi : az_in i n = true) : az_row S a i = some (b + i.toNatClampNeg) := by
  have hv := az_in_iff.mp hi
  have hlt : i.toNatClampNeg < n := Nat.not_le.mp fun q => hv (Or.inr q)
  simp [az_row, h, hi, hlt]
theorem g0_0 {I : Nat → Nat → Int32} : az_gfl az_S I 0 6 0 = some (.ref 1) := az_gfr (sl := [some (some 1), some (some 5), some (some 18), some (some 28), some (some 36), some (some 106), none]) (by decide +kernel) (by decide)
theorem g0_1 {I : Nat → Nat → Int32} : az_gfl az_S I 0 6 1 = some (.ref 5) := az_gfr (sl := [some (some 1), some (some 5), some (some 18), some (some 28), some (some 36), some (some 106), none]) (by decide +kernel) (by decide)
theorem g0_2 {I : Nat → Nat → Int32} : az_gfl az_S I 0 6 2 = some (.ref 18) := az_gfr (sl := [some (some 1), some (some 5), some (some 18), some (some 28), some (some 36), some (some 106), none]) (by decide +kernel) (by decide)
theorem g0_3 {I : Nat → Nat → Int32} : az_gfl az_S I 0 6 3 = some (.ref 28) := az_gfr (sl := [some (some 1), some (some 5), some (some 18), some (some 28), some (some 36), some (some 106), none]) (by decide +kernel) (by decide)
theorem g0_4 {I : Nat → Nat → Int32} : az_gfl az_S I 0 6 4 = some (.ref 36) := az_gfr (sl := [some (some 1), some (some 5), some (some 18), some (some 28), some (some 36), some (some 106), none]) (by decide +kernel) (by decide)
theorem g0_5 {I : Nat → Nat → Int32} : az_gfl az_S I 0 6 5 = some (.ref 106) := az_gfr (sl := [some (some 1), some (some 5), some (some 18), some (some 28), some (some 36), some (some 106), none]) (by decide +kernel) (by decide)
theorem g0_6 {I : Nat → Nat → Int32} : az_gfl az_S I 0 6 6 = some (.int (I 0 6)) := az_gfi (sl := [some (some 1), some (some 5), some (some 18), some (some 28), some (some 36), some (some 106), none]) (by decide +kernel) (by decide)
theorem p0_6 {k : Nat} : az_pfi az_S k 0 6 6 = true := by
  unfold az_pfi
  rw [show az_S[0]? = some (0, 6, [some (some 1), some (some 5), some (some 18), some (some 28), some (some 36), some (some 106), none]) by decide +kernel]
  simp [az_wr, az_T, az_Ts, TX6, az_ty, az_tys, tyX6]
theorem g1_0 {I : Nat → Nat → Int32} : az_gfl az_S I 1 3 0 = some (.ref 2) := az_gfr (sl := [some (some 2), some (some 3), some (some 4)]) (by decide +kernel) (by decide)
theorem g1_1 {I : Nat → Nat → Int32} : az_gfl az_S I 1 3 1 = some (.ref 3) := az_gfr (sl := [some (some 2), some (some 3), some (some 4)]) (by decide +kernel) (by decide)
theorem g1_2 {I : Nat → Nat → Int32} : az_gfl az_S I 1 3 2 = some (.ref 4) := az_gfr (sl := [some (some 2), some (some 3), some (some 4)]) (by decide +kernel) (by decide)
theorem A2 {i : Int32} : az_isA az_S 1 2 i = az_in i 3 := az_isa (sl := []) (by decide +kernel)
theorem L2 : az_aln az_S 2 = some 3 := by unfold az_aln; rw [show az_S[2]? = some (1, 3, []) by decide +kernel]; rfl
theorem A3 {i : Int32} : az_isA az_S 1 3 i = az_in i 3 := az_isa (sl := []) (by decide +kernel)
theorem L3 : az_aln az_S 3 = some 3 := by unfold az_aln; rw [show az_S[3]? = some (1, 3, []) by decide +kernel]; rfl
theorem A4 {i : Int32} : az_isA az_S 1 4 i = az_in i 3 := az_isa (sl := []) (by decide +kernel)
theorem L4 : az_aln az_S 4 = some 3 := by unfold az_aln; rw [show az_S[4]? = some (1, 3, []) by decide +kernel]; rfl
theorem g5_0 {I : Nat → Nat → Int32} : az_gfl az_S I 5 2 0 = some (.ref 6) := az_gfr (sl := [some (some 6), some (some 7), some (some 8), some (some 9), some (some 10), some (some 11), some (some 12), some (some 13), some (some 14)]) (by decide +kernel) (by decide)
theorem g5_1 {I : Nat → Nat → Int32} : az_gfl az_S I 5 2 1 = some (.ref 7) := az_gfr (sl := [some (some 6), some (some 7), some (some 8), some (some 9), some (some 10), some (some 11), some (some 12), some (some 13), some (some 14)]) (by decide +kernel) (by decide)
theorem g5_2 {I : Nat → Nat → Int32} : az_gfl az_S I 5 2 2 = some (.ref 8) := az_gfr (sl := [some (some 6), some (some 7), some (some 8), some (some 9), some (some 10), some (some 11), some (some 12), some (some 13), some (some 14)]) (by decide +kernel) (by decide)
theorem g5_3 {I : Nat → Nat → Int32} : az_gfl az_S I 5 2 3 = some (.ref 9) := az_gfr (sl := [some (some 6), some (some 7), some (some 8), some (some 9), some (some 10), some (some 11), some (some 12), some (some 13), some (some 14)]) (by decide +kernel) (by decide)
theorem g5_4 {I : Nat → Nat → Int32} : az_gfl az_S I 5 2 4 = some (.ref 10) := az_gfr (sl := [some (some 6), some (some 7), some (some 8), some (some 9), some (some 10), some (some 11), some (some 12), some (some 13), some (some 14)]) (by decide +kernel) (by decide)
theorem g5_5 {I : Nat → Nat → Int32} : az_gfl az_S I 5 2 5 = some (.ref 11) := az_gfr (sl := [some (some 6), some (some 7), some (some 8), some (some 9), some (some 10), some (some 11), some (some 12), some (some 13), some (some 14)]) (by decide +kernel) (by decide)
theorem g5_6 {I : Nat → Nat → Int32} : az_gfl az_S I 5 2 6 = some (.ref 12) := az_gfr (sl := [some (some 6), some (some 7), some (some 8), some (some 9), some (some 10), some (some 11), some (some 12), some (some 13), some (some 14)]) (by decide +kernel) (by decide)
theorem g5_7 {I : Nat → Nat → Int32} : az_gfl az_S I 5 2 7 = some (.ref 13) := az_gfr (sl := [some (some 6), some (some 7), some (some 8), some (some 9), some (some 10), some (some 11), some (some 12), some (some 13), some (some 14)]) (by decide +kernel) (by decide)
theorem g5_8 {I : Nat → Nat → Int32} : az_gfl az_S I 5 2 8 = some (.ref 14) := az_gfr (sl := [some (some 6), some (some 7), some (some 8), some (some 9), some (some 10), some (some 11), some (some 12), some (some 13), some (some 14)]) (by decide +kernel) (by decide)
theorem A6 {i : Int32} : az_isA az_S 2 6 i = az_in i 4 := az_isa (sl := []) (by decide +kernel)
theorem A7 {i : Int32} : az_isA az_S 1 7 i = az_in i 4 := az_isa (sl := []) (by decide +kernel)
theorem L7 : az_aln az_S 7 = some 4 := by unfold az_aln; rw [show az_S[7]? = some (1, 4, []) by decide +kernel]; rfl
theorem A8 {i : Int32} : az_isA az_S 1 8 i = az_in i 4 := az_isa (sl := []) (by decide +kernel)
theorem L8 : az_aln az_S 8 = some 4 := by unfold az_aln; rw [show az_S[8]? = some (1, 4, []) by decide +kernel]; rfl
theorem A9 {i : Int32} : az_isA az_S 1 9 i = az_in i 4 := az_isa (sl := []) (by decide +kernel)
theorem L9 : az_aln az_S 9 = some 4 := by unfold az_aln; rw [show az_S[9]? = some (1, 4, []) by decide +kernel]; rfl
theorem A10 {i : Int32} : az_isA az_S 1 10 i = az_in i 4 := az_isa (sl := []) (by decide +kernel)
theorem L10 : az_aln az_S 10 = some 4 := by unfold az_aln; rw [show az_S[10]? = some (1, 4, []) by decide +kernel]; rfl
theorem A11 {i : Int32} : az_isA az_S 1 11 i = az_in i 4 := az_isa (sl := []) (by decide +kernel)
theorem L11 : az_aln az_S 11 = some 4 := by unfold az_aln; rw [show az_S[11]? = some (1, 4, []) by decide +kernel]; rfl
theorem A12 {i : Int32} : az_isA az_S 1 12 i = az_in i 4 := az_isa (sl := []) (by decide +kernel)
theorem L12 : az_aln az_S 12 = some 4 := by unfold az_aln; rw [show az_S[12]? = some (1, 4, []) by decide +kernel]; rfl
theorem A13 {i : Int32} : az_isA az_S 1 13 i = az_in i 4 := az_isa (sl := []) (by decide +kernel)
theorem L13 : az_aln az_S 13 = some 4 := by unfold az_aln; rw [show az_S[13]? = some (1, 4, []) by decide +kernel]; rfl
theorem R14 {i : Int32} (h : az_in i 3 = true) : az_row az_S 14 i = some (15 + i.toNatClampNeg) := az_rwo (n := 3) (by decide +kernel) h
theorem az_sr14 : ∀ j, j < 3 → az_S[15 + j]? = some (1, 4, []) := fun j h => of_decide_eq_true (List.all_eq_true.mp (show (List.range 3).all (fun j => decide (az_S[15 + j]? = some (1, 4, []))) = true by decide +kernel) j (List.mem_range.mpr h))
theorem AR14 {j : Nat} {i : Int32} (h : j < 3) : az_isA az_S 1 (15 + j) i = az_in i 4 := az_isa (az_sr14 j h)
theorem LR14 {j : Nat} (h : j < 3) : az_aln az_S (15 + j) = some 4 := by unfold az_aln; rw [az_sr14 j h]; rfl
theorem g18_0 {I : Nat → Nat → Int32} : az_gfl az_S I 18 1 0 = some (.ref 19) := az_gfr (sl := [some (some 19), some (some 20), some (some 21), some (some 22), some (some 23), some (some 24), some (some 25), some (some 26), some (some 27), none]) (by decide +kernel) (by decide)
theorem g18_1 {I : Nat → Nat → Int32} : az_gfl az_S I 18 1 1 = some (.ref 20) := az_gfr (sl := [some (some 19), some (some 20), some (some 21), some (some 22), some (some 23), some (some 24), some (some 25), some (some 26), some (some 27), none]) (by decide +kernel) (by decide)
theorem g18_2 {I : Nat → Nat → Int32} : az_gfl az_S I 18 1 2 = some (.ref 21) := az_gfr (sl := [some (some 19), some (some 20), some (some 21), some (some 22), some (some 23), some (some 24), some (some 25), some (some 26), some (some 27), none]) (by decide +kernel) (by decide)
theorem g18_3 {I : Nat → Nat → Int32} : az_gfl az_S I 18 1 3 = some (.ref 22) := az_gfr (sl := [some (some 19), some (some 20), some (some 21), some (some 22), some (some 23), some (some 24), some (some 25), some (some 26), some (some 27), none]) (by decide +kernel) (by decide)
theorem g18_4 {I : Nat → Nat → Int32} : az_gfl az_S I 18 1 4 = some (.ref 23) := az_gfr (sl := [some (some 19), some (some 20), some (some 21), some (some 22), some (some 23), some (some 24), some (some 25), some (some 26), some (some 27), none]) (by decide +kernel) (by decide)
theorem g18_5 {I : Nat → Nat → Int32} : az_gfl az_S I 18 1 5 = some (.ref 24) := az_gfr (sl := [some (some 19), some (some 20), some (some 21), some (some 22), some (some 23), some (some 24), some (some 25), some (some 26), some (some 27), none]) (by decide +kernel) (by decide)
theorem g18_6 {I : Nat → Nat → Int32} : az_gfl az_S I 18 1 6 = some (.ref 25) := az_gfr (sl := [some (some 19), some (some 20), some (some 21), some (some 22), some (some 23), some (some 24), some (some 25), some (some 26), some (some 27), none]) (by decide +kernel) (by decide)
theorem g18_7 {I : Nat → Nat → Int32} : az_gfl az_S I 18 1 7 = some (.ref 26) := az_gfr (sl := [some (some 19), some (some 20), some (some 21), some (some 22), some (some 23), some (some 24), some (some 25), some (some 26), some (some 27), none]) (by decide +kernel) (by decide)
theorem g18_8 {I : Nat → Nat → Int32} : az_gfl az_S I 18 1 8 = some (.ref 27) := az_gfr (sl := [some (some 19), some (some 20), some (some 21), some (some 22), some (some 23), some (some 24), some (some 25), some (some 26), some (some 27), none]) (by decide +kernel) (by decide)
theorem g18_9 {I : Nat → Nat → Int32} : az_gfl az_S I 18 1 9 = some (.int (I 18 9)) := az_gfi (sl := [some (some 19), some (some 20), some (some 21), some (some 22), some (some 23), some (some 24), some (some 25), some (some 26), some (some 27), none]) (by decide +kernel) (by decide)
theorem p18_9 {k : Nat} : az_pfi az_S k 18 1 9 = true := by
  unfold az_pfi
  rw [show az_S[18]? = some (0, 1, [some (some 19), some (some 20), some (some 21), some (some 22), some (some 23), some (some 24), some (some 25), some (some 26), some (some 27), none]) by decide +kernel]
  simp [az_wr, az_T, az_Ts, TX1, az_ty, az_tys, tyX1]
theorem A19 {i : Int32} : az_isA az_S 1 19 i = az_in i 12 := az_isa (sl := []) (by decide +kernel)
theorem L19 : az_aln az_S 19 = some 12 := by unfold az_aln; rw [show az_S[19]? = some (1, 12, []) by decide +kernel]; rfl
theorem A20 {i : Int32} : az_isA az_S 1 20 i = az_in i 12 := az_isa (sl := []) (by decide +kernel)
theorem L20 : az_aln az_S 20 = some 12 := by unfold az_aln; rw [show az_S[20]? = some (1, 12, []) by decide +kernel]; rfl
theorem A21 {i : Int32} : az_isA az_S 1 21 i = az_in i 12 := az_isa (sl := []) (by decide +kernel)
theorem L21 : az_aln az_S 21 = some 12 := by unfold az_aln; rw [show az_S[21]? = some (1, 12, []) by decide +kernel]; rfl
theorem A22 {i : Int32} : az_isA az_S 1 22 i = az_in i 12 := az_isa (sl := []) (by decide +kernel)
theorem L22 : az_aln az_S 22 = some 12 := by unfold az_aln; rw [show az_S[22]? = some (1, 12, []) by decide +kernel]; rfl
theorem A23 {i : Int32} : az_isA az_S 1 23 i = az_in i 12 := az_isa (sl := []) (by decide +kernel)
theorem L23 : az_aln az_S 23 = some 12 := by unfold az_aln; rw [show az_S[23]? = some (1, 12, []) by decide +kernel]; rfl
theorem A24 {i : Int32} : az_isA az_S 1 24 i = az_in i 12 := az_isa (sl := []) (by decide +kernel)
theorem L24 : az_aln az_S 24 = some 12 := by unfold az_aln; rw [show az_S[24]? = some (1, 12, []) by decide +kernel]; rfl
theorem A25 {i : Int32} : az_isA az_S 1 25 i = az_in i 12 := az_isa (sl := []) (by decide +kernel)
theorem L25 : az_aln az_S 25 = some 12 := by unfold az_aln; rw [show az_S[25]? = some (1, 12, []) by decide +kernel]; rfl
theorem A26 {i : Int32} : az_isA az_S 1 26 i = az_in i 12 := az_isa (sl := []) (by decide +kernel)
theorem L26 : az_aln az_S 26 = some 12 := by unfold az_aln; rw [show az_S[26]? = some (1, 12, []) by decide +kernel]; rfl
theorem A27 {i : Int32} : az_isA az_S 1 27 i = az_in i 12 := az_isa (sl := []) (by decide +kernel)
theorem L27 : az_aln az_S 27 = some 12 := by unfold az_aln; rw [show az_S[27]? = some (1, 12, []) by decide +kernel]; rfl
theorem g28_0 {I : Nat → Nat → Int32} : az_gfl az_S I 28 4 0 = some (.ref 29) := az_gfr (sl := [some (some 29), some (some 30), some (some 31), some (some 32), some (some 33), some (some 34), some (some 35), none]) (by decide +kernel) (by decide)
theorem g28_1 {I : Nat → Nat → Int32} : az_gfl az_S I 28 4 1 = some (.ref 30) := az_gfr (sl := [some (some 29), some (some 30), some (some 31), some (some 32), some (some 33), some (some 34), some (some 35), none]) (by decide +kernel) (by decide)
theorem g28_2 {I : Nat → Nat → Int32} : az_gfl az_S I 28 4 2 = some (.ref 31) := az_gfr (sl := [some (some 29), some (some 30), some (some 31), some (some 32), some (some 33), some (some 34), some (some 35), none]) (by decide +kernel) (by decide)
theorem g28_3 {I : Nat → Nat → Int32} : az_gfl az_S I 28 4 3 = some (.ref 32) := az_gfr (sl := [some (some 29), some (some 30), some (some 31), some (some 32), some (some 33), some (some 34), some (some 35), none]) (by decide +kernel) (by decide)
theorem g28_4 {I : Nat → Nat → Int32} : az_gfl az_S I 28 4 4 = some (.ref 33) := az_gfr (sl := [some (some 29), some (some 30), some (some 31), some (some 32), some (some 33), some (some 34), some (some 35), none]) (by decide +kernel) (by decide)
theorem g28_5 {I : Nat → Nat → Int32} : az_gfl az_S I 28 4 5 = some (.ref 34) := az_gfr (sl := [some (some 29), some (some 30), some (some 31), some (some 32), some (some 33), some (some 34), some (some 35), none]) (by decide +kernel) (by decide)
theorem g28_6 {I : Nat → Nat → Int32} : az_gfl az_S I 28 4 6 = some (.ref 35) := az_gfr (sl := [some (some 29), some (some 30), some (some 31), some (some 32), some (some 33), some (some 34), some (some 35), none]) (by decide +kernel) (by decide)
theorem g28_7 {I : Nat → Nat → Int32} : az_gfl az_S I 28 4 7 = some (.int (I 28 7)) := az_gfi (sl := [some (some 29), some (some 30), some (some 31), some (some 32), some (some 33), some (some 34), some (some 35), none]) (by decide +kernel) (by decide)
theorem p28_7 {k : Nat} : az_pfi az_S k 28 4 7 = true := by
  unfold az_pfi
  rw [show az_S[28]? = some (0, 4, [some (some 29), some (some 30), some (some 31), some (some 32), some (some 33), some (some 34), some (some 35), none]) by decide +kernel]
  simp [az_wr, az_T, az_Ts, TX4, az_ty, az_tys, tyX4]
theorem A29 {i : Int32} : az_isA az_S 1 29 i = az_in i 60 := az_isa (sl := []) (by decide +kernel)
theorem L29 : az_aln az_S 29 = some 60 := by unfold az_aln; rw [show az_S[29]? = some (1, 60, []) by decide +kernel]; rfl
theorem A30 {i : Int32} : az_isA az_S 1 30 i = az_in i 60 := az_isa (sl := []) (by decide +kernel)
theorem L30 : az_aln az_S 30 = some 60 := by unfold az_aln; rw [show az_S[30]? = some (1, 60, []) by decide +kernel]; rfl
theorem A31 {i : Int32} : az_isA az_S 1 31 i = az_in i 60 := az_isa (sl := []) (by decide +kernel)
theorem L31 : az_aln az_S 31 = some 60 := by unfold az_aln; rw [show az_S[31]? = some (1, 60, []) by decide +kernel]; rfl
theorem A32 {i : Int32} : az_isA az_S 1 32 i = az_in i 60 := az_isa (sl := []) (by decide +kernel)
theorem L32 : az_aln az_S 32 = some 60 := by unfold az_aln; rw [show az_S[32]? = some (1, 60, []) by decide +kernel]; rfl
theorem A33 {i : Int32} : az_isA az_S 1 33 i = az_in i 60 := az_isa (sl := []) (by decide +kernel)
theorem L33 : az_aln az_S 33 = some 60 := by unfold az_aln; rw [show az_S[33]? = some (1, 60, []) by decide +kernel]; rfl
theorem A34 {i : Int32} : az_isA az_S 1 34 i = az_in i 60 := az_isa (sl := []) (by decide +kernel)
theorem L34 : az_aln az_S 34 = some 60 := by unfold az_aln; rw [show az_S[34]? = some (1, 60, []) by decide +kernel]; rfl
theorem A35 {i : Int32} : az_isA az_S 1 35 i = az_in i 60 := az_isa (sl := []) (by decide +kernel)
theorem L35 : az_aln az_S 35 = some 60 := by unfold az_aln; rw [show az_S[35]? = some (1, 60, []) by decide +kernel]; rfl
theorem g36_0 {I : Nat → Nat → Int32} : az_gfl az_S I 36 0 0 = some (.ref 37) := az_gfr (sl := [some (some 37), some (some 38), some (some 39), some (some 40), some (some 41), none, none, none]) (by decide +kernel) (by decide)
theorem g36_1 {I : Nat → Nat → Int32} : az_gfl az_S I 36 0 1 = some (.ref 38) := az_gfr (sl := [some (some 37), some (some 38), some (some 39), some (some 40), some (some 41), none, none, none]) (by decide +kernel) (by decide)
theorem g36_2 {I : Nat → Nat → Int32} : az_gfl az_S I 36 0 2 = some (.ref 39) := az_gfr (sl := [some (some 37), some (some 38), some (some 39), some (some 40), some (some 41), none, none, none]) (by decide +kernel) (by decide)
theorem g36_3 {I : Nat → Nat → Int32} : az_gfl az_S I 36 0 3 = some (.ref 40) := az_gfr (sl := [some (some 37), some (some 38), some (some 39), some (some 40), some (some 41), none, none, none]) (by decide +kernel) (by decide)
theorem g36_4 {I : Nat → Nat → Int32} : az_gfl az_S I 36 0 4 = some (.ref 41) := az_gfr (sl := [some (some 37), some (some 38), some (some 39), some (some 40), some (some 41), none, none, none]) (by decide +kernel) (by decide)
theorem g36_5 {I : Nat → Nat → Int32} : az_gfl az_S I 36 0 5 = some (.int (I 36 5)) := az_gfi (sl := [some (some 37), some (some 38), some (some 39), some (some 40), some (some 41), none, none, none]) (by decide +kernel) (by decide)
theorem p36_5 {k : Nat} : az_pfi az_S k 36 0 5 = true := by
  unfold az_pfi
  rw [show az_S[36]? = some (0, 0, [some (some 37), some (some 38), some (some 39), some (some 40), some (some 41), none, none, none]) by decide +kernel]
  simp [az_wr, az_T, az_Ts, TX0, az_ty, az_tys, tyX0]
theorem g36_6 {I : Nat → Nat → Int32} : az_gfl az_S I 36 0 6 = some (.int (I 36 6)) := az_gfi (sl := [some (some 37), some (some 38), some (some 39), some (some 40), some (some 41), none, none, none]) (by decide +kernel) (by decide)
theorem p36_6 {k : Nat} : az_pfi az_S k 36 0 6 = true := by
  unfold az_pfi
  rw [show az_S[36]? = some (0, 0, [some (some 37), some (some 38), some (some 39), some (some 40), some (some 41), none, none, none]) by decide +kernel]
  simp [az_wr, az_T, az_Ts, TX0, az_ty, az_tys, tyX0]
theorem g36_7 {I : Nat → Nat → Int32} : az_gfl az_S I 36 0 7 = some (.int (I 36 7)) := az_gfi (sl := [some (some 37), some (some 38), some (some 39), some (some 40), some (some 41), none, none, none]) (by decide +kernel) (by decide)
theorem p36_7 {k : Nat} : az_pfi az_S k 36 0 7 = true := by
  unfold az_pfi
  rw [show az_S[36]? = some (0, 0, [some (some 37), some (some 38), some (some 39), some (some 40), some (some 41), none, none, none]) by decide +kernel]
  simp [az_wr, az_T, az_Ts, TX0, az_ty, az_tys, tyX0]
theorem A37 {i : Int32} : az_isA az_S 2 37 i = az_in i 6 := az_isa (sl := []) (by decide +kernel)
theorem A38 {i : Int32} : az_isA az_S 1 38 i = az_in i 6 := az_isa (sl := []) (by decide +kernel)
theorem L38 : az_aln az_S 38 = some 6 := by unfold az_aln; rw [show az_S[38]? = some (1, 6, []) by decide +kernel]; rfl
theorem A39 {i : Int32} : az_isA az_S 1 39 i = az_in i 6 := az_isa (sl := []) (by decide +kernel)
theorem L39 : az_aln az_S 39 = some 6 := by unfold az_aln; rw [show az_S[39]? = some (1, 6, []) by decide +kernel]; rfl
theorem A40 {i : Int32} : az_isA az_S 1 40 i = az_in i 6 := az_isa (sl := []) (by decide +kernel)
theorem L40 : az_aln az_S 40 = some 6 := by unfold az_aln; rw [show az_S[40]? = some (1, 6, []) by decide +kernel]; rfl
theorem R41 {i : Int32} (h : az_in i 64 = true) : az_row az_S 41 i = some (42 + i.toNatClampNeg) := az_rwo (n := 64) (by decide +kernel) h
theorem az_sr41 : ∀ j, j < 64 → az_S[42 + j]? = some (1, 32, []) := fun j h => of_decide_eq_true (List.all_eq_true.mp (show (List.range 64).all (fun j => decide (az_S[42 + j]? = some (1, 32, []))) = true by decide +kernel) j (List.mem_range.mpr h))
theorem AR41 {j : Nat} {i : Int32} (h : j < 64) : az_isA az_S 1 (42 + j) i = az_in i 32 := az_isa (az_sr41 j h)
theorem LR41 {j : Nat} (h : j < 64) : az_aln az_S (42 + j) = some 32 := by unfold az_aln; rw [az_sr41 j h]; rfl
theorem g106_0 {I : Nat → Nat → Int32} : az_gfl az_S I 106 5 0 = some (.ref 107) := az_gfr (sl := [some (some 107), some (some 108), some (some 109), some (some 110), some (some 111), none]) (by decide +kernel) (by decide)
theorem g106_1 {I : Nat → Nat → Int32} : az_gfl az_S I 106 5 1 = some (.ref 108) := az_gfr (sl := [some (some 107), some (some 108), some (some 109), some (some 110), some (some 111), none]) (by decide +kernel) (by decide)
theorem g106_2 {I : Nat → Nat → Int32} : az_gfl az_S I 106 5 2 = some (.ref 109) := az_gfr (sl := [some (some 107), some (some 108), some (some 109), some (some 110), some (some 111), none]) (by decide +kernel) (by decide)
theorem g106_3 {I : Nat → Nat → Int32} : az_gfl az_S I 106 5 3 = some (.ref 110) := az_gfr (sl := [some (some 107), some (some 108), some (some 109), some (some 110), some (some 111), none]) (by decide +kernel) (by decide)
theorem g106_4 {I : Nat → Nat → Int32} : az_gfl az_S I 106 5 4 = some (.ref 111) := az_gfr (sl := [some (some 107), some (some 108), some (some 109), some (some 110), some (some 111), none]) (by decide +kernel) (by decide)
theorem g106_5 {I : Nat → Nat → Int32} : az_gfl az_S I 106 5 5 = some (.int (I 106 5)) := az_gfi (sl := [some (some 107), some (some 108), some (some 109), some (some 110), some (some 111), none]) (by decide +kernel) (by decide)
theorem p106_5 {k : Nat} : az_pfi az_S k 106 5 5 = true := by
  unfold az_pfi
  rw [show az_S[106]? = some (0, 5, [some (some 107), some (some 108), some (some 109), some (some 110), some (some 111), none]) by decide +kernel]
  simp [az_wr, az_T, az_Ts, TX5, az_ty, az_tys, tyX5]
theorem A107 {i : Int32} : az_isA az_S 1 107 i = az_in i 40 := az_isa (sl := []) (by decide +kernel)
theorem L107 : az_aln az_S 107 = some 40 := by unfold az_aln; rw [show az_S[107]? = some (1, 40, []) by decide +kernel]; rfl
theorem A108 {i : Int32} : az_isA az_S 1 108 i = az_in i 40 := az_isa (sl := []) (by decide +kernel)
theorem L108 : az_aln az_S 108 = some 40 := by unfold az_aln; rw [show az_S[108]? = some (1, 40, []) by decide +kernel]; rfl
theorem A109 {i : Int32} : az_isA az_S 1 109 i = az_in i 40 := az_isa (sl := []) (by decide +kernel)
theorem L109 : az_aln az_S 109 = some 40 := by unfold az_aln; rw [show az_S[109]? = some (1, 40, []) by decide +kernel]; rfl
theorem A110 {i : Int32} : az_isA az_S 1 110 i = az_in i 40 := az_isa (sl := []) (by decide +kernel)
theorem L110 : az_aln az_S 110 = some 40 := by unfold az_aln; rw [show az_S[110]? = some (1, 40, []) by decide +kernel]; rfl
theorem R111 {i : Int32} (h : az_in i 40 = true) : az_row az_S 111 i = some (112 + i.toNatClampNeg) := az_rwo (n := 40) (by decide +kernel) h
theorem az_sr111 : ∀ j, j < 40 → az_S[112 + j]? = some (1, 60, []) := fun j h => of_decide_eq_true (List.all_eq_true.mp (show (List.range 40).all (fun j => decide (az_S[112 + j]? = some (1, 60, []))) = true by decide +kernel) j (List.mem_range.mpr h))
theorem AR111 {j : Nat} {i : Int32} (h : j < 40) : az_isA az_S 1 (112 + j) i = az_in i 60 := az_isa (az_sr111 j h)
theorem LR111 {j : Nat} (h : j < 40) : az_aln az_S (112 + j) = some 60 := by unfold az_aln; rw [az_sr111 j h]; rfl
theorem g152_0 {I : Nat → Nat → Int32} : az_gfl az_S I 152 6 0 = some (.ref 153) := az_gfr (sl := [some (some 153), some (some 157), some (some 170), some (some 180), some (some 188), some (some 258), none]) (by decide +kernel) (by decide)
theorem g152_1 {I : Nat → Nat → Int32} : az_gfl az_S I 152 6 1 = some (.ref 157) := az_gfr (sl := [some (some 153), some (some 157), some (some 170), some (some 180), some (some 188), some (some 258), none]) (by decide +kernel) (by decide)
theorem g152_2 {I : Nat → Nat → Int32} : az_gfl az_S I 152 6 2 = some (.ref 170) := az_gfr (sl := [some (some 153), some (some 157), some (some 170), some (some 180), some (some 188), some (some 258), none]) (by decide +kernel) (by decide)
theorem g152_3 {I : Nat → Nat → Int32} : az_gfl az_S I 152 6 3 = some (.ref 180) := az_gfr (sl := [some (some 153), some (some 157), some (some 170), some (some 180), some (some 188), some (some 258), none]) (by decide +kernel) (by decide)
theorem g152_4 {I : Nat → Nat → Int32} : az_gfl az_S I 152 6 4 = some (.ref 188) := az_gfr (sl := [some (some 153), some (some 157), some (some 170), some (some 180), some (some 188), some (some 258), none]) (by decide +kernel) (by decide)
theorem g152_5 {I : Nat → Nat → Int32} : az_gfl az_S I 152 6 5 = some (.ref 258) := az_gfr (sl := [some (some 153), some (some 157), some (some 170), some (some 180), some (some 188), some (some 258), none]) (by decide +kernel) (by decide)
theorem g152_6 {I : Nat → Nat → Int32} : az_gfl az_S I 152 6 6 = some (.int (I 152 6)) := az_gfi (sl := [some (some 153), some (some 157), some (some 170), some (some 180), some (some 188), some (some 258), none]) (by decide +kernel) (by decide)
theorem p152_6 {k : Nat} : az_pfi az_S k 152 6 6 = true := by
  unfold az_pfi
  rw [show az_S[152]? = some (0, 6, [some (some 153), some (some 157), some (some 170), some (some 180), some (some 188), some (some 258), none]) by decide +kernel]
  simp [az_wr, az_T, az_Ts, TX6, az_ty, az_tys, tyX6]
theorem g153_0 {I : Nat → Nat → Int32} : az_gfl az_S I 153 3 0 = some (.ref 154) := az_gfr (sl := [some (some 154), some (some 155), some (some 156)]) (by decide +kernel) (by decide)
theorem g153_1 {I : Nat → Nat → Int32} : az_gfl az_S I 153 3 1 = some (.ref 155) := az_gfr (sl := [some (some 154), some (some 155), some (some 156)]) (by decide +kernel) (by decide)
theorem g153_2 {I : Nat → Nat → Int32} : az_gfl az_S I 153 3 2 = some (.ref 156) := az_gfr (sl := [some (some 154), some (some 155), some (some 156)]) (by decide +kernel) (by decide)
theorem g157_0 {I : Nat → Nat → Int32} : az_gfl az_S I 157 2 0 = some (.ref 158) := az_gfr (sl := [some (some 158), some (some 159), some (some 160), some (some 161), some (some 162), some (some 163), some (some 164), some (some 165), some (some 166)]) (by decide +kernel) (by decide)
theorem g157_1 {I : Nat → Nat → Int32} : az_gfl az_S I 157 2 1 = some (.ref 159) := az_gfr (sl := [some (some 158), some (some 159), some (some 160), some (some 161), some (some 162), some (some 163), some (some 164), some (some 165), some (some 166)]) (by decide +kernel) (by decide)
theorem g157_2 {I : Nat → Nat → Int32} : az_gfl az_S I 157 2 2 = some (.ref 160) := az_gfr (sl := [some (some 158), some (some 159), some (some 160), some (some 161), some (some 162), some (some 163), some (some 164), some (some 165), some (some 166)]) (by decide +kernel) (by decide)
theorem g157_3 {I : Nat → Nat → Int32} : az_gfl az_S I 157 2 3 = some (.ref 161) := az_gfr (sl := [some (some 158), some (some 159), some (some 160), some (some 161), some (some 162), some (some 163), some (some 164), some (some 165), some (some 166)]) (by decide +kernel) (by decide)
theorem g157_4 {I : Nat → Nat → Int32} : az_gfl az_S I 157 2 4 = some (.ref 162) := az_gfr (sl := [some (some 158), some (some 159), some (some 160), some (some 161), some (some 162), some (some 163), some (some 164), some (some 165), some (some 166)]) (by decide +kernel) (by decide)
theorem g157_5 {I : Nat → Nat → Int32} : az_gfl az_S I 157 2 5 = some (.ref 163) := az_gfr (sl := [some (some 158), some (some 159), some (some 160), some (some 161), some (some 162), some (some 163), some (some 164), some (some 165), some (some 166)]) (by decide +kernel) (by decide)
theorem g157_6 {I : Nat → Nat → Int32} : az_gfl az_S I 157 2 6 = some (.ref 164) := az_gfr (sl := [some (some 158), some (some 159), some (some 160), some (some 161), some (some 162), some (some 163), some (some 164), some (some 165), some (some 166)]) (by decide +kernel) (by decide)
theorem g157_7 {I : Nat → Nat → Int32} : az_gfl az_S I 157 2 7 = some (.ref 165) := az_gfr (sl := [some (some 158), some (some 159), some (some 160), some (some 161), some (some 162), some (some 163), some (some 164), some (some 165), some (some 166)]) (by decide +kernel) (by decide)
theorem g157_8 {I : Nat → Nat → Int32} : az_gfl az_S I 157 2 8 = some (.ref 166) := az_gfr (sl := [some (some 158), some (some 159), some (some 160), some (some 161), some (some 162), some (some 163), some (some 164), some (some 165), some (some 166)]) (by decide +kernel) (by decide)
theorem R166 {i : Int32} (h : az_in i 3 = true) : az_row az_S 166 i = some (167 + i.toNatClampNeg) := az_rwo (n := 3) (by decide +kernel) h
theorem az_sr166 : ∀ j, j < 3 → az_S[167 + j]? = some (1, 4, []) := fun j h => of_decide_eq_true (List.all_eq_true.mp (show (List.range 3).all (fun j => decide (az_S[167 + j]? = some (1, 4, []))) = true by decide +kernel) j (List.mem_range.mpr h))
theorem AR166 {j : Nat} {i : Int32} (h : j < 3) : az_isA az_S 1 (167 + j) i = az_in i 4 := az_isa (az_sr166 j h)
theorem LR166 {j : Nat} (h : j < 3) : az_aln az_S (167 + j) = some 4 := by unfold az_aln; rw [az_sr166 j h]; rfl
theorem g170_0 {I : Nat → Nat → Int32} : az_gfl az_S I 170 1 0 = some (.ref 171) := az_gfr (sl := [some (some 171), some (some 172), some (some 173), some (some 174), some (some 175), some (some 176), some (some 177), some (some 178), some (some 179), none]) (by decide +kernel) (by decide)
theorem g170_1 {I : Nat → Nat → Int32} : az_gfl az_S I 170 1 1 = some (.ref 172) := az_gfr (sl := [some (some 171), some (some 172), some (some 173), some (some 174), some (some 175), some (some 176), some (some 177), some (some 178), some (some 179), none]) (by decide +kernel) (by decide)
theorem g170_2 {I : Nat → Nat → Int32} : az_gfl az_S I 170 1 2 = some (.ref 173) := az_gfr (sl := [some (some 171), some (some 172), some (some 173), some (some 174), some (some 175), some (some 176), some (some 177), some (some 178), some (some 179), none]) (by decide +kernel) (by decide)
theorem g170_3 {I : Nat → Nat → Int32} : az_gfl az_S I 170 1 3 = some (.ref 174) := az_gfr (sl := [some (some 171), some (some 172), some (some 173), some (some 174), some (some 175), some (some 176), some (some 177), some (some 178), some (some 179), none]) (by decide +kernel) (by decide)
theorem g170_4 {I : Nat → Nat → Int32} : az_gfl az_S I 170 1 4 = some (.ref 175) := az_gfr (sl := [some (some 171), some (some 172), some (some 173), some (some 174), some (some 175), some (some 176), some (some 177), some (some 178), some (some 179), none]) (by decide +kernel) (by decide)
theorem g170_5 {I : Nat → Nat → Int32} : az_gfl az_S I 170 1 5 = some (.ref 176) := az_gfr (sl := [some (some 171), some (some 172), some (some 173), some (some 174), some (some 175), some (some 176), some (some 177), some (some 178), some (some 179), none]) (by decide +kernel) (by decide)
theorem g170_6 {I : Nat → Nat → Int32} : az_gfl az_S I 170 1 6 = some (.ref 177) := az_gfr (sl := [some (some 171), some (some 172), some (some 173), some (some 174), some (some 175), some (some 176), some (some 177), some (some 178), some (some 179), none]) (by decide +kernel) (by decide)
theorem g170_7 {I : Nat → Nat → Int32} : az_gfl az_S I 170 1 7 = some (.ref 178) := az_gfr (sl := [some (some 171), some (some 172), some (some 173), some (some 174), some (some 175), some (some 176), some (some 177), some (some 178), some (some 179), none]) (by decide +kernel) (by decide)
theorem g170_8 {I : Nat → Nat → Int32} : az_gfl az_S I 170 1 8 = some (.ref 179) := az_gfr (sl := [some (some 171), some (some 172), some (some 173), some (some 174), some (some 175), some (some 176), some (some 177), some (some 178), some (some 179), none]) (by decide +kernel) (by decide)
theorem g170_9 {I : Nat → Nat → Int32} : az_gfl az_S I 170 1 9 = some (.int (I 170 9)) := az_gfi (sl := [some (some 171), some (some 172), some (some 173), some (some 174), some (some 175), some (some 176), some (some 177), some (some 178), some (some 179), none]) (by decide +kernel) (by decide)
theorem p170_9 {k : Nat} : az_pfi az_S k 170 1 9 = true := by
  unfold az_pfi
  rw [show az_S[170]? = some (0, 1, [some (some 171), some (some 172), some (some 173), some (some 174), some (some 175), some (some 176), some (some 177), some (some 178), some (some 179), none]) by decide +kernel]
  simp [az_wr, az_T, az_Ts, TX1, az_ty, az_tys, tyX1]
theorem g180_0 {I : Nat → Nat → Int32} : az_gfl az_S I 180 4 0 = some (.ref 181) := az_gfr (sl := [some (some 181), some (some 182), some (some 183), some (some 184), some (some 185), some (some 186), some (some 187), none]) (by decide +kernel) (by decide)
theorem g180_1 {I : Nat → Nat → Int32} : az_gfl az_S I 180 4 1 = some (.ref 182) := az_gfr (sl := [some (some 181), some (some 182), some (some 183), some (some 184), some (some 185), some (some 186), some (some 187), none]) (by decide +kernel) (by decide)
theorem g180_2 {I : Nat → Nat → Int32} : az_gfl az_S I 180 4 2 = some (.ref 183) := az_gfr (sl := [some (some 181), some (some 182), some (some 183), some (some 184), some (some 185), some (some 186), some (some 187), none]) (by decide +kernel) (by decide)
theorem g180_3 {I : Nat → Nat → Int32} : az_gfl az_S I 180 4 3 = some (.ref 184) := az_gfr (sl := [some (some 181), some (some 182), some (some 183), some (some 184), some (some 185), some (some 186), some (some 187), none]) (by decide +kernel) (by decide)
theorem g180_4 {I : Nat → Nat → Int32} : az_gfl az_S I 180 4 4 = some (.ref 185) := az_gfr (sl := [some (some 181), some (some 182), some (some 183), some (some 184), some (some 185), some (some 186), some (some 187), none]) (by decide +kernel) (by decide)
theorem g180_5 {I : Nat → Nat → Int32} : az_gfl az_S I 180 4 5 = some (.ref 186) := az_gfr (sl := [some (some 181), some (some 182), some (some 183), some (some 184), some (some 185), some (some 186), some (some 187), none]) (by decide +kernel) (by decide)
theorem g180_6 {I : Nat → Nat → Int32} : az_gfl az_S I 180 4 6 = some (.ref 187) := az_gfr (sl := [some (some 181), some (some 182), some (some 183), some (some 184), some (some 185), some (some 186), some (some 187), none]) (by decide +kernel) (by decide)
theorem g180_7 {I : Nat → Nat → Int32} : az_gfl az_S I 180 4 7 = some (.int (I 180 7)) := az_gfi (sl := [some (some 181), some (some 182), some (some 183), some (some 184), some (some 185), some (some 186), some (some 187), none]) (by decide +kernel) (by decide)
theorem p180_7 {k : Nat} : az_pfi az_S k 180 4 7 = true := by
  unfold az_pfi
  rw [show az_S[180]? = some (0, 4, [some (some 181), some (some 182), some (some 183), some (some 184), some (some 185), some (some 186), some (some 187), none]) by decide +kernel]
  simp [az_wr, az_T, az_Ts, TX4, az_ty, az_tys, tyX4]
theorem g188_0 {I : Nat → Nat → Int32} : az_gfl az_S I 188 0 0 = some (.ref 189) := az_gfr (sl := [some (some 189), some (some 190), some (some 191), some (some 192), some (some 193), none, none, none]) (by decide +kernel) (by decide)
theorem g188_1 {I : Nat → Nat → Int32} : az_gfl az_S I 188 0 1 = some (.ref 190) := az_gfr (sl := [some (some 189), some (some 190), some (some 191), some (some 192), some (some 193), none, none, none]) (by decide +kernel) (by decide)
theorem g188_2 {I : Nat → Nat → Int32} : az_gfl az_S I 188 0 2 = some (.ref 191) := az_gfr (sl := [some (some 189), some (some 190), some (some 191), some (some 192), some (some 193), none, none, none]) (by decide +kernel) (by decide)
theorem g188_3 {I : Nat → Nat → Int32} : az_gfl az_S I 188 0 3 = some (.ref 192) := az_gfr (sl := [some (some 189), some (some 190), some (some 191), some (some 192), some (some 193), none, none, none]) (by decide +kernel) (by decide)
theorem g188_4 {I : Nat → Nat → Int32} : az_gfl az_S I 188 0 4 = some (.ref 193) := az_gfr (sl := [some (some 189), some (some 190), some (some 191), some (some 192), some (some 193), none, none, none]) (by decide +kernel) (by decide)
theorem g188_5 {I : Nat → Nat → Int32} : az_gfl az_S I 188 0 5 = some (.int (I 188 5)) := az_gfi (sl := [some (some 189), some (some 190), some (some 191), some (some 192), some (some 193), none, none, none]) (by decide +kernel) (by decide)
theorem p188_5 {k : Nat} : az_pfi az_S k 188 0 5 = true := by
  unfold az_pfi
  rw [show az_S[188]? = some (0, 0, [some (some 189), some (some 190), some (some 191), some (some 192), some (some 193), none, none, none]) by decide +kernel]
  simp [az_wr, az_T, az_Ts, TX0, az_ty, az_tys, tyX0]
theorem g188_6 {I : Nat → Nat → Int32} : az_gfl az_S I 188 0 6 = some (.int (I 188 6)) := az_gfi (sl := [some (some 189), some (some 190), some (some 191), some (some 192), some (some 193), none, none, none]) (by decide +kernel) (by decide)
theorem p188_6 {k : Nat} : az_pfi az_S k 188 0 6 = true := by
  unfold az_pfi
  rw [show az_S[188]? = some (0, 0, [some (some 189), some (some 190), some (some 191), some (some 192), some (some 193), none, none, none]) by decide +kernel]
  simp [az_wr, az_T, az_Ts, TX0, az_ty, az_tys, tyX0]
theorem g188_7 {I : Nat → Nat → Int32} : az_gfl az_S I 188 0 7 = some (.int (I 188 7)) := az_gfi (sl := [some (some 189), some (some 190), some (some 191), some (some 192), some (some 193), none, none, none]) (by decide +kernel) (by decide)
theorem p188_7 {k : Nat} : az_pfi az_S k 188 0 7 = true := by
  unfold az_pfi
  rw [show az_S[188]? = some (0, 0, [some (some 189), some (some 190), some (some 191), some (some 192), some (some 193), none, none, none]) by decide +kernel]
  simp [az_wr, az_T, az_Ts, TX0, az_ty, az_tys, tyX0]
theorem R193 {i : Int32} (h : az_in i 64 = true) : az_row az_S 193 i = some (194 + i.toNatClampNeg) := az_rwo (n := 64) (by decide +kernel) h
theorem az_sr193 : ∀ j, j < 64 → az_S[194 + j]? = some (1, 32, []) := fun j h => of_decide_eq_true (List.all_eq_true.mp (show (List.range 64).all (fun j => decide (az_S[194 + j]? = some (1, 32, []))) = true by decide +kernel) j (List.mem_range.mpr h))
theorem AR193 {j : Nat} {i : Int32} (h : j < 64) : az_isA az_S 1 (194 + j) i = az_in i 32 := az_isa (az_sr193 j h)
theorem LR193 {j : Nat} (h : j < 64) : az_aln az_S (194 + j) = some 32 := by unfold az_aln; rw [az_sr193 j h]; rfl
theorem g258_0 {I : Nat → Nat → Int32} : az_gfl az_S I 258 5 0 = some (.ref 259) := az_gfr (sl := [some (some 259), some (some 260), some (some 261), some (some 262), some (some 263), none]) (by decide +kernel) (by decide)
theorem g258_1 {I : Nat → Nat → Int32} : az_gfl az_S I 258 5 1 = some (.ref 260) := az_gfr (sl := [some (some 259), some (some 260), some (some 261), some (some 262), some (some 263), none]) (by decide +kernel) (by decide)
theorem g258_2 {I : Nat → Nat → Int32} : az_gfl az_S I 258 5 2 = some (.ref 261) := az_gfr (sl := [some (some 259), some (some 260), some (some 261), some (some 262), some (some 263), none]) (by decide +kernel) (by decide)
theorem g258_3 {I : Nat → Nat → Int32} : az_gfl az_S I 258 5 3 = some (.ref 262) := az_gfr (sl := [some (some 259), some (some 260), some (some 261), some (some 262), some (some 263), none]) (by decide +kernel) (by decide)
theorem g258_4 {I : Nat → Nat → Int32} : az_gfl az_S I 258 5 4 = some (.ref 263) := az_gfr (sl := [some (some 259), some (some 260), some (some 261), some (some 262), some (some 263), none]) (by decide +kernel) (by decide)
theorem g258_5 {I : Nat → Nat → Int32} : az_gfl az_S I 258 5 5 = some (.int (I 258 5)) := az_gfi (sl := [some (some 259), some (some 260), some (some 261), some (some 262), some (some 263), none]) (by decide +kernel) (by decide)
theorem p258_5 {k : Nat} : az_pfi az_S k 258 5 5 = true := by
  unfold az_pfi
  rw [show az_S[258]? = some (0, 5, [some (some 259), some (some 260), some (some 261), some (some 262), some (some 263), none]) by decide +kernel]
  simp [az_wr, az_T, az_Ts, TX5, az_ty, az_tys, tyX5]
theorem R263 {i : Int32} (h : az_in i 40 = true) : az_row az_S 263 i = some (264 + i.toNatClampNeg) := az_rwo (n := 40) (by decide +kernel) h
theorem az_sr263 : ∀ j, j < 40 → az_S[264 + j]? = some (1, 60, []) := fun j h => of_decide_eq_true (List.all_eq_true.mp (show (List.range 40).all (fun j => decide (az_S[264 + j]? = some (1, 60, []))) = true by decide +kernel) j (List.mem_range.mpr h))
theorem AR263 {j : Nat} {i : Int32} (h : j < 40) : az_isA az_S 1 (264 + j) i = az_in i 60 := az_isa (az_sr263 j h)
theorem LR263 {j : Nat} (h : j < 40) : az_aln az_S (264 + j) = some 60 := by unfold az_aln; rw [az_sr263 j h]; rfl
theorem az_cat0 : az_cat [] = 0 := by decide
theorem az_cati {x : Int32} {r : List Value} : az_cat (.int x :: r) = 1 + az_cat r := by simp [az_cat, Value.category]
theorem az_catr {x : Nat} {r : List Value} : az_cat (.ref x :: r) = 1 + az_cat r := by simp [az_cat, Value.category]
theorem az_catl {x : Int64} {r : List Value} : az_cat (.long x :: r) = 2 + az_cat r := by simp [az_cat, Value.category]
theorem az_ccs {m : Nat} {S : List az_Shp} {as rest : List Value} (h : az_cat rest ≤ 8) (h2 : az_cat as.reverse = as.length) (h3 : az_kd m = 1 ∨ az_kd m = 3) : az_cc m S as rest := ⟨h, h2, h3.elim Or.inl fun q => Or.inr (Or.inl q)⟩
theorem az_ccv {m b ci : Nat} {S : List az_Shp} {as rest : List Value} {sl : List (Option (Option Nat))} (h : az_cat rest ≤ 8) (h2 : az_cat (as.reverse ++ [.ref b]) = as.length + 1) (h3 : S[b]? = some (0, ci, sl)) (h4 : az_own m = ci) : az_cc m S (.ref b :: as) rest := ⟨h, by simpa using h2, Or.inr (Or.inr (by simp [az_rcv, h3, h4]))⟩
theorem cc1 {x0 : Int32} {x1 : Int32} {x2 : Int32} {rest : List Value} (h : az_cat rest ≤ 8) : az_cc 1 az_S [.ref 36, .int x0, .int x1, .int x2] rest := az_ccv (ci := 0) (sl := [some (some 37), some (some 38), some (some 39), some (some 40), some (some 41), none, none, none]) h rfl (by decide +kernel) (by decide +kernel)
theorem cc2 {x0 : Int32} {x1 : Int32} {rest : List Value} (h : az_cat rest ≤ 8) : az_cc 2 az_S [.ref 36, .int x0, .int x1] rest := az_ccv (ci := 0) (sl := [some (some 37), some (some 38), some (some 39), some (some 40), some (some 41), none, none, none]) h rfl (by decide +kernel) (by decide +kernel)
theorem cc3 {x0 : Int32} {x1 : Int32} {x2 : Int32} {rest : List Value} (h : az_cat rest ≤ 8) : az_cc 3 az_S [.ref 36, .int x0, .int x1, .int x2] rest := az_ccv (ci := 0) (sl := [some (some 37), some (some 38), some (some 39), some (some 40), some (some 41), none, none, none]) h rfl (by decide +kernel) (by decide +kernel)
theorem cc4 {x0 : Int32} {x1 : Int32} {rest : List Value} (h : az_cat rest ≤ 8) : az_cc 4 az_S [.ref 36, .int x0, .int x1] rest := az_ccv (ci := 0) (sl := [some (some 37), some (some 38), some (some 39), some (some 40), some (some 41), none, none, none]) h rfl (by decide +kernel) (by decide +kernel)
theorem cc5 {x0 : Int32} {rest : List Value} (h : az_cat rest ≤ 8) : az_cc 5 az_S [.ref 36, .int x0] rest := az_ccv (ci := 0) (sl := [some (some 37), some (some 38), some (some 39), some (some 40), some (some 41), none, none, none]) h rfl (by decide +kernel) (by decide +kernel)
theorem cc6 {S : List az_Shp} {x0 : Nat} {x1 : Int32} {x2 : Int32} {x3 : Int32} {rest : List Value} (h : az_cat rest ≤ 8) : az_cc 6 S [.ref x0, .int x1, .int x2, .int x3] rest := az_ccs h rfl (by decide +kernel)
theorem cc7 {x0 : Int32} {rest : List Value} (h : az_cat rest ≤ 8) : az_cc 7 az_S [.ref 36, .int x0] rest := az_ccv (ci := 0) (sl := [some (some 37), some (some 38), some (some 39), some (some 40), some (some 41), none, none, none]) h rfl (by decide +kernel) (by decide +kernel)
theorem cc8 {x0 : Int32} {rest : List Value} (h : az_cat rest ≤ 8) : az_cc 8 az_S [.ref 36, .int x0] rest := az_ccv (ci := 0) (sl := [some (some 37), some (some 38), some (some 39), some (some 40), some (some 41), none, none, none]) h rfl (by decide +kernel) (by decide +kernel)
theorem cc9 {x0 : Int32} {rest : List Value} (h : az_cat rest ≤ 8) : az_cc 9 az_S [.ref 36, .int x0] rest := az_ccv (ci := 0) (sl := [some (some 37), some (some 38), some (some 39), some (some 40), some (some 41), none, none, none]) h rfl (by decide +kernel) (by decide +kernel)
theorem cc10 {x0 : Int32} {x1 : Int32} {x2 : Int32} {x3 : Int32} {rest : List Value} (h : az_cat rest ≤ 8) : az_cc 10 az_S [.ref 36, .int x0, .int x1, .int x2, .int x3] rest := az_ccv (ci := 0) (sl := [some (some 37), some (some 38), some (some 39), some (some 40), some (some 41), none, none, none]) h rfl (by decide +kernel) (by decide +kernel)
theorem cc11 {x0 : Int32} {x1 : Int32} {rest : List Value} (h : az_cat rest ≤ 8) : az_cc 11 az_S [.ref 36, .int x0, .int x1] rest := az_ccv (ci := 0) (sl := [some (some 37), some (some 38), some (some 39), some (some 40), some (some 41), none, none, none]) h rfl (by decide +kernel) (by decide +kernel)
theorem cc13 {x0 : Int32} {x1 : Int32} {x2 : Nat} {rest : List Value} (h : az_cat rest ≤ 8) : az_cc 13 az_S [.ref 18, .int x0, .int x1, .ref x2] rest := az_ccv (ci := 1) (sl := [some (some 19), some (some 20), some (some 21), some (some 22), some (some 23), some (some 24), some (some 25), some (some 26), some (some 27), none]) h rfl (by decide +kernel) (by decide +kernel)
theorem cc14 {x0 : Int32} {rest : List Value} (h : az_cat rest ≤ 8) : az_cc 14 az_S [.ref 18, .int x0] rest := az_ccv (ci := 1) (sl := [some (some 19), some (some 20), some (some 21), some (some 22), some (some 23), some (some 24), some (some 25), some (some 26), some (some 27), none]) h rfl (by decide +kernel) (by decide +kernel)
theorem cc15 {x0 : Int32} {rest : List Value} (h : az_cat rest ≤ 8) : az_cc 15 az_S [.ref 18, .int x0] rest := az_ccv (ci := 1) (sl := [some (some 19), some (some 20), some (some 21), some (some 22), some (some 23), some (some 24), some (some 25), some (some 26), some (some 27), none]) h rfl (by decide +kernel) (by decide +kernel)
theorem cc17 {x0 : Int32} {rest : List Value} (h : az_cat rest ≤ 8) : az_cc 17 az_S [.ref 5, .int x0] rest := az_ccv (ci := 2) (sl := [some (some 6), some (some 7), some (some 8), some (some 9), some (some 10), some (some 11), some (some 12), some (some 13), some (some 14)]) h rfl (by decide +kernel) (by decide +kernel)
theorem cc20  {rest : List Value} (h : az_cat rest ≤ 8) : az_cc 20 az_S [.ref 28] rest := az_ccv (ci := 4) (sl := [some (some 29), some (some 30), some (some 31), some (some 32), some (some 33), some (some 34), some (some 35), none]) h rfl (by decide +kernel) (by decide +kernel)
theorem cc21 {x0 : Int32} {x1 : Int32} {x2 : Int32} {x3 : Int32} {x4 : Int32} {rest : List Value} (h : az_cat rest ≤ 8) : az_cc 21 az_S [.ref 28, .int x0, .int x1, .int x2, .int x3, .int x4] rest := az_ccv (ci := 4) (sl := [some (some 29), some (some 30), some (some 31), some (some 32), some (some 33), some (some 34), some (some 35), none]) h rfl (by decide +kernel) (by decide +kernel)
theorem cc22 {x0 : Int32} {rest : List Value} (h : az_cat rest ≤ 8) : az_cc 22 az_S [.ref 28, .int x0] rest := az_ccv (ci := 4) (sl := [some (some 29), some (some 30), some (some 31), some (some 32), some (some 33), some (some 34), some (some 35), none]) h rfl (by decide +kernel) (by decide +kernel)
theorem cc23 {x0 : Int32} {x1 : Int32} {rest : List Value} (h : az_cat rest ≤ 8) : az_cc 23 az_S [.ref 28, .int x0, .int x1] rest := az_ccv (ci := 4) (sl := [some (some 29), some (some 30), some (some 31), some (some 32), some (some 33), some (some 34), some (some 35), none]) h rfl (by decide +kernel) (by decide +kernel)
theorem cc24 {x0 : Int32} {x1 : Int32} {rest : List Value} (h : az_cat rest ≤ 8) : az_cc 24 az_S [.ref 28, .int x0, .int x1] rest := az_ccv (ci := 4) (sl := [some (some 29), some (some 30), some (some 31), some (some 32), some (some 33), some (some 34), some (some 35), none]) h rfl (by decide +kernel) (by decide +kernel)
theorem cc25 {x0 : Int32} {x1 : Int32} {rest : List Value} (h : az_cat rest ≤ 8) : az_cc 25 az_S [.ref 28, .int x0, .int x1] rest := az_ccv (ci := 4) (sl := [some (some 29), some (some 30), some (some 31), some (some 32), some (some 33), some (some 34), some (some 35), none]) h rfl (by decide +kernel) (by decide +kernel)
theorem cc26 {x0 : Int32} {x1 : Int32} {rest : List Value} (h : az_cat rest ≤ 8) : az_cc 26 az_S [.ref 28, .int x0, .int x1] rest := az_ccv (ci := 4) (sl := [some (some 29), some (some 30), some (some 31), some (some 32), some (some 33), some (some 34), some (some 35), none]) h rfl (by decide +kernel) (by decide +kernel)
theorem cc27 {x0 : Int32} {rest : List Value} (h : az_cat rest ≤ 8) : az_cc 27 az_S [.ref 28, .int x0] rest := az_ccv (ci := 4) (sl := [some (some 29), some (some 30), some (some 31), some (some 32), some (some 33), some (some 34), some (some 35), none]) h rfl (by decide +kernel) (by decide +kernel)
theorem cc28 {x0 : Int32} {x1 : Int32} {rest : List Value} (h : az_cat rest ≤ 8) : az_cc 28 az_S [.ref 28, .int x0, .int x1] rest := az_ccv (ci := 4) (sl := [some (some 29), some (some 30), some (some 31), some (some 32), some (some 33), some (some 34), some (some 35), none]) h rfl (by decide +kernel) (by decide +kernel)
theorem cc29 {x0 : Nat} {x1 : Int32} {rest : List Value} (h : az_cat rest ≤ 8) : az_cc 29 az_S [.ref 28, .ref x0, .int x1] rest := az_ccv (ci := 4) (sl := [some (some 29), some (some 30), some (some 31), some (some 32), some (some 33), some (some 34), some (some 35), none]) h rfl (by decide +kernel) (by decide +kernel)
theorem cc30 {x0 : Int32} {rest : List Value} (h : az_cat rest ≤ 8) : az_cc 30 az_S [.ref 28, .int x0] rest := az_ccv (ci := 4) (sl := [some (some 29), some (some 30), some (some 31), some (some 32), some (some 33), some (some 34), some (some 35), none]) h rfl (by decide +kernel) (by decide +kernel)
theorem cc31 {x0 : Int32} {rest : List Value} (h : az_cat rest ≤ 8) : az_cc 31 az_S [.ref 28, .int x0] rest := az_ccv (ci := 4) (sl := [some (some 29), some (some 30), some (some 31), some (some 32), some (some 33), some (some 34), some (some 35), none]) h rfl (by decide +kernel) (by decide +kernel)
theorem cc32 {x0 : Int32} {x1 : Int32} {x2 : Int32} {rest : List Value} (h : az_cat rest ≤ 8) : az_cc 32 az_S [.ref 28, .int x0, .int x1, .int x2] rest := az_ccv (ci := 4) (sl := [some (some 29), some (some 30), some (some 31), some (some 32), some (some 33), some (some 34), some (some 35), none]) h rfl (by decide +kernel) (by decide +kernel)
theorem cc34 {x0 : Int32} {x1 : Int32} {x2 : Int32} {x3 : Nat} {rest : List Value} (h : az_cat rest ≤ 8) : az_cc 34 az_S [.ref 106, .int x0, .int x1, .int x2, .ref x3] rest := az_ccv (ci := 5) (sl := [some (some 107), some (some 108), some (some 109), some (some 110), some (some 111), none]) h rfl (by decide +kernel) (by decide +kernel)
theorem cc35 {x0 : Int32} {x1 : Nat} {rest : List Value} (h : az_cat rest ≤ 8) : az_cc 35 az_S [.ref 106, .int x0, .ref x1] rest := az_ccv (ci := 5) (sl := [some (some 107), some (some 108), some (some 109), some (some 110), some (some 111), none]) h rfl (by decide +kernel) (by decide +kernel)
theorem cc36 {x0 : Int32} {x1 : Int32} {rest : List Value} (h : az_cat rest ≤ 8) : az_cc 36 az_S [.ref 106, .int x0, .int x1] rest := az_ccv (ci := 5) (sl := [some (some 107), some (some 108), some (some 109), some (some 110), some (some 111), none]) h rfl (by decide +kernel) (by decide +kernel)
theorem cc37 {x0 : Int32} {rest : List Value} (h : az_cat rest ≤ 8) : az_cc 37 az_S [.ref 106, .int x0] rest := az_ccv (ci := 5) (sl := [some (some 107), some (some 108), some (some 109), some (some 110), some (some 111), none]) h rfl (by decide +kernel) (by decide +kernel)
theorem cc38 {x0 : Int32} {x1 : Int32} {x2 : Int32} {rest : List Value} (h : az_cat rest ≤ 8) : az_cc 38 az_S [.ref 106, .int x0, .int x1, .int x2] rest := az_ccv (ci := 5) (sl := [some (some 107), some (some 108), some (some 109), some (some 110), some (some 111), none]) h rfl (by decide +kernel) (by decide +kernel)
theorem cc39 {x0 : Int32} {x1 : Int32} {rest : List Value} (h : az_cat rest ≤ 8) : az_cc 39 az_S [.ref 106, .int x0, .int x1] rest := az_ccv (ci := 5) (sl := [some (some 107), some (some 108), some (some 109), some (some 110), some (some 111), none]) h rfl (by decide +kernel) (by decide +kernel)
theorem cc41 {x0 : Int32} {x1 : Int32} {x2 : Int32} {x3 : Int32} {rest : List Value} (h : az_cat rest ≤ 8) : az_cc 41 az_S [.ref 0, .int x0, .int x1, .int x2, .int x3] rest := az_ccv (ci := 6) (sl := [some (some 1), some (some 5), some (some 18), some (some 28), some (some 36), some (some 106), none]) h rfl (by decide +kernel) (by decide +kernel)
theorem cc42 {x0 : Int32} {x1 : Int32} {rest : List Value} (h : az_cat rest ≤ 8) : az_cc 42 az_S [.ref 0, .int x0, .int x1] rest := az_ccv (ci := 6) (sl := [some (some 1), some (some 5), some (some 18), some (some 28), some (some 36), some (some 106), none]) h rfl (by decide +kernel) (by decide +kernel)
theorem cc43 {x0 : Int32} {x1 : Int32} {x2 : Int32} {rest : List Value} (h : az_cat rest ≤ 8) : az_cc 43 az_S [.ref 0, .int x0, .int x1, .int x2] rest := az_ccv (ci := 6) (sl := [some (some 1), some (some 5), some (some 18), some (some 28), some (some 36), some (some 106), none]) h rfl (by decide +kernel) (by decide +kernel)
theorem cc44 {x0 : Int32} {x1 : Int32} {x2 : Int32} {rest : List Value} (h : az_cat rest ≤ 8) : az_cc 44 az_S [.ref 0, .int x0, .int x1, .int x2] rest := az_ccv (ci := 6) (sl := [some (some 1), some (some 5), some (some 18), some (some 28), some (some 36), some (some 106), none]) h rfl (by decide +kernel) (by decide +kernel)
theorem cc45 {x0 : Int32} {x1 : Int32} {x2 : Int32} {rest : List Value} (h : az_cat rest ≤ 8) : az_cc 45 az_S [.ref 0, .int x0, .int x1, .int x2] rest := az_ccv (ci := 6) (sl := [some (some 1), some (some 5), some (some 18), some (some 28), some (some 36), some (some 106), none]) h rfl (by decide +kernel) (by decide +kernel)
theorem cc46 {x0 : Int32} {x1 : Int32} {x2 : Int32} {rest : List Value} (h : az_cat rest ≤ 8) : az_cc 46 az_S [.ref 0, .int x0, .int x1, .int x2] rest := az_ccv (ci := 6) (sl := [some (some 1), some (some 5), some (some 18), some (some 28), some (some 36), some (some 106), none]) h rfl (by decide +kernel) (by decide +kernel)
theorem cc47 {x0 : Int32} {rest : List Value} (h : az_cat rest ≤ 8) : az_cc 47 az_S [.ref 0, .int x0] rest := az_ccv (ci := 6) (sl := [some (some 1), some (some 5), some (some 18), some (some 28), some (some 36), some (some 106), none]) h rfl (by decide +kernel) (by decide +kernel)
theorem cc48 {x0 : Int32} {rest : List Value} (h : az_cat rest ≤ 8) : az_cc 48 az_S [.ref 0, .int x0] rest := az_ccv (ci := 6) (sl := [some (some 1), some (some 5), some (some 18), some (some 28), some (some 36), some (some 106), none]) h rfl (by decide +kernel) (by decide +kernel)
theorem cc49 {x0 : Int32} {rest : List Value} (h : az_cat rest ≤ 8) : az_cc 49 az_S [.ref 0, .int x0] rest := az_ccv (ci := 6) (sl := [some (some 1), some (some 5), some (some 18), some (some 28), some (some 36), some (some 106), none]) h rfl (by decide +kernel) (by decide +kernel)
theorem cc50 {x0 : Int32} {x1 : Int32} {rest : List Value} (h : az_cat rest ≤ 8) : az_cc 50 az_S [.ref 0, .int x0, .int x1] rest := az_ccv (ci := 6) (sl := [some (some 1), some (some 5), some (some 18), some (some 28), some (some 36), some (some 106), none]) h rfl (by decide +kernel) (by decide +kernel)
theorem cc51 {x0 : Int32} {x1 : Int32} {rest : List Value} (h : az_cat rest ≤ 8) : az_cc 51 az_S [.ref 0, .int x0, .int x1] rest := az_ccv (ci := 6) (sl := [some (some 1), some (some 5), some (some 18), some (some 28), some (some 36), some (some 106), none]) h rfl (by decide +kernel) (by decide +kernel)
theorem cc52 {x0 : Int32} {x1 : Int32} {rest : List Value} (h : az_cat rest ≤ 8) : az_cc 52 az_S [.ref 0, .int x0, .int x1] rest := az_ccv (ci := 6) (sl := [some (some 1), some (some 5), some (some 18), some (some 28), some (some 36), some (some 106), none]) h rfl (by decide +kernel) (by decide +kernel)
theorem cc53 {x0 : Int32} {x1 : Int32} {rest : List Value} (h : az_cat rest ≤ 8) : az_cc 53 az_S [.ref 0, .int x0, .int x1] rest := az_ccv (ci := 6) (sl := [some (some 1), some (some 5), some (some 18), some (some 28), some (some 36), some (some 106), none]) h rfl (by decide +kernel) (by decide +kernel)
theorem cc54 {x0 : Int32} {x1 : Int32} {rest : List Value} (h : az_cat rest ≤ 8) : az_cc 54 az_S [.ref 0, .int x0, .int x1] rest := az_ccv (ci := 6) (sl := [some (some 1), some (some 5), some (some 18), some (some 28), some (some 36), some (some 106), none]) h rfl (by decide +kernel) (by decide +kernel)
theorem cc55 {x0 : Int32} {x1 : Int32} {rest : List Value} (h : az_cat rest ≤ 8) : az_cc 55 az_S [.ref 0, .int x0, .int x1] rest := az_ccv (ci := 6) (sl := [some (some 1), some (some 5), some (some 18), some (some 28), some (some 36), some (some 106), none]) h rfl (by decide +kernel) (by decide +kernel)
theorem cc56 {x0 : Int32} {rest : List Value} (h : az_cat rest ≤ 8) : az_cc 56 az_S [.ref 0, .int x0] rest := az_ccv (ci := 6) (sl := [some (some 1), some (some 5), some (some 18), some (some 28), some (some 36), some (some 106), none]) h rfl (by decide +kernel) (by decide +kernel)
theorem cc57  {rest : List Value} (h : az_cat rest ≤ 8) : az_cc 57 az_S [.ref 0] rest := az_ccv (ci := 6) (sl := [some (some 1), some (some 5), some (some 18), some (some 28), some (some 36), some (some 106), none]) h rfl (by decide +kernel) (by decide +kernel)
theorem cc58 {x0 : Int32} {x1 : Int32} {rest : List Value} (h : az_cat rest ≤ 8) : az_cc 58 az_S [.ref 0, .int x0, .int x1] rest := az_ccv (ci := 6) (sl := [some (some 1), some (some 5), some (some 18), some (some 28), some (some 36), some (some 106), none]) h rfl (by decide +kernel) (by decide +kernel)
theorem cc59  {rest : List Value} (h : az_cat rest ≤ 8) : az_cc 59 az_S [.ref 0] rest := az_ccv (ci := 6) (sl := [some (some 1), some (some 5), some (some 18), some (some 28), some (some 36), some (some 106), none]) h rfl (by decide +kernel) (by decide +kernel)
theorem cc60 {x0 : Int32} {x1 : Int32} {rest : List Value} (h : az_cat rest ≤ 8) : az_cc 60 az_S [.ref 0, .int x0, .int x1] rest := az_ccv (ci := 6) (sl := [some (some 1), some (some 5), some (some 18), some (some 28), some (some 36), some (some 106), none]) h rfl (by decide +kernel) (by decide +kernel)
theorem cc61 {x0 : Int32} {x1 : Int32} {rest : List Value} (h : az_cat rest ≤ 8) : az_cc 61 az_S [.ref 0, .int x0, .int x1] rest := az_ccv (ci := 6) (sl := [some (some 1), some (some 5), some (some 18), some (some 28), some (some 36), some (some 106), none]) h rfl (by decide +kernel) (by decide +kernel)
theorem cc62 {x0 : Int32} {x1 : Int32} {rest : List Value} (h : az_cat rest ≤ 8) : az_cc 62 az_S [.ref 0, .int x0, .int x1] rest := az_ccv (ci := 6) (sl := [some (some 1), some (some 5), some (some 18), some (some 28), some (some 36), some (some 106), none]) h rfl (by decide +kernel) (by decide +kernel)
theorem cc63 {x0 : Int32} {x1 : Int32} {rest : List Value} (h : az_cat rest ≤ 8) : az_cc 63 az_S [.ref 0, .int x0, .int x1] rest := az_ccv (ci := 6) (sl := [some (some 1), some (some 5), some (some 18), some (some 28), some (some 36), some (some 106), none]) h rfl (by decide +kernel) (by decide +kernel)
theorem cc64 {x0 : Int32} {x1 : Int32} {rest : List Value} (h : az_cat rest ≤ 8) : az_cc 64 az_S [.ref 0, .int x0, .int x1] rest := az_ccv (ci := 6) (sl := [some (some 1), some (some 5), some (some 18), some (some 28), some (some 36), some (some 106), none]) h rfl (by decide +kernel) (by decide +kernel)
theorem cc65 {x0 : Int32} {x1 : Int32} {rest : List Value} (h : az_cat rest ≤ 8) : az_cc 65 az_S [.ref 0, .int x0, .int x1] rest := az_ccv (ci := 6) (sl := [some (some 1), some (some 5), some (some 18), some (some 28), some (some 36), some (some 106), none]) h rfl (by decide +kernel) (by decide +kernel)
theorem cc66 {x0 : Int32} {x1 : Int32} {rest : List Value} (h : az_cat rest ≤ 8) : az_cc 66 az_S [.ref 0, .int x0, .int x1] rest := az_ccv (ci := 6) (sl := [some (some 1), some (some 5), some (some 18), some (some 28), some (some 36), some (some 106), none]) h rfl (by decide +kernel) (by decide +kernel)
theorem cc67 {x0 : Int32} {rest : List Value} (h : az_cat rest ≤ 8) : az_cc 67 az_S [.ref 0, .int x0] rest := az_ccv (ci := 6) (sl := [some (some 1), some (some 5), some (some 18), some (some 28), some (some 36), some (some 106), none]) h rfl (by decide +kernel) (by decide +kernel)
theorem cc68 {x0 : Int32} {rest : List Value} (h : az_cat rest ≤ 8) : az_cc 68 az_S [.ref 0, .int x0] rest := az_ccv (ci := 6) (sl := [some (some 1), some (some 5), some (some 18), some (some 28), some (some 36), some (some 106), none]) h rfl (by decide +kernel) (by decide +kernel)
theorem cc69 {S : List az_Shp} {x0 : Int32} {x1 : Int32} {rest : List Value} (h : az_cat rest ≤ 8) : az_cc 69 S [.int x0, .int x1] rest := az_ccs h rfl (by decide +kernel)
theorem cc70 {S : List az_Shp} {x0 : Int32} {x1 : Int32} {x2 : Int32} {rest : List Value} (h : az_cat rest ≤ 8) : az_cc 70 S [.int x0, .int x1, .int x2] rest := az_ccs h rfl (by decide +kernel)
theorem cc71 {S : List az_Shp} {x0 : Int32} {x1 : Int32} {rest : List Value} (h : az_cat rest ≤ 8) : az_cc 71 S [.int x0, .int x1] rest := az_ccs h rfl (by decide +kernel)
theorem cc72 {S : List az_Shp} {x0 : Int32} {x1 : Int32} {rest : List Value} (h : az_cat rest ≤ 8) : az_cc 72 S [.int x0, .int x1] rest := az_ccs h rfl (by decide +kernel)
theorem cc73 {S : List az_Shp} {x0 : Int32} {rest : List Value} (h : az_cat rest ≤ 8) : az_cc 73 S [.int x0] rest := az_ccs h rfl (by decide +kernel)
theorem cc74 {x0 : Int32} {x1 : Int32} {rest : List Value} (h : az_cat rest ≤ 8) : az_cc 74 az_S [.ref 0, .int x0, .int x1] rest := az_ccv (ci := 6) (sl := [some (some 1), some (some 5), some (some 18), some (some 28), some (some 36), some (some 106), none]) h rfl (by decide +kernel) (by decide +kernel)
theorem cc75 {x0 : Int32} {rest : List Value} (h : az_cat rest ≤ 8) : az_cc 75 az_S [.ref 0, .int x0] rest := az_ccv (ci := 6) (sl := [some (some 1), some (some 5), some (some 18), some (some 28), some (some 36), some (some 106), none]) h rfl (by decide +kernel) (by decide +kernel)
theorem cc76 {x0 : Int32} {x1 : Int32} {rest : List Value} (h : az_cat rest ≤ 8) : az_cc 76 az_S [.ref 0, .int x0, .int x1] rest := az_ccv (ci := 6) (sl := [some (some 1), some (some 5), some (some 18), some (some 28), some (some 36), some (some 106), none]) h rfl (by decide +kernel) (by decide +kernel)
theorem cc77 {x0 : Int32} {x1 : Int32} {rest : List Value} (h : az_cat rest ≤ 8) : az_cc 77 az_S [.ref 0, .int x0, .int x1] rest := az_ccv (ci := 6) (sl := [some (some 1), some (some 5), some (some 18), some (some 28), some (some 36), some (some 106), none]) h rfl (by decide +kernel) (by decide +kernel)
theorem cc78 {x0 : Int32} {x1 : Int32} {x2 : Int32} {x3 : Int32} {rest : List Value} (h : az_cat rest ≤ 8) : az_cc 78 az_S [.ref 0, .int x0, .int x1, .int x2, .int x3] rest := az_ccv (ci := 6) (sl := [some (some 1), some (some 5), some (some 18), some (some 28), some (some 36), some (some 106), none]) h rfl (by decide +kernel) (by decide +kernel)
theorem cc79 {x0 : Int32} {rest : List Value} (h : az_cat rest ≤ 8) : az_cc 79 az_S [.ref 0, .int x0] rest := az_ccv (ci := 6) (sl := [some (some 1), some (some 5), some (some 18), some (some 28), some (some 36), some (some 106), none]) h rfl (by decide +kernel) (by decide +kernel)
theorem cc80 {x0 : Int32} {rest : List Value} (h : az_cat rest ≤ 8) : az_cc 80 az_S [.ref 0, .int x0] rest := az_ccv (ci := 6) (sl := [some (some 1), some (some 5), some (some 18), some (some 28), some (some 36), some (some 106), none]) h rfl (by decide +kernel) (by decide +kernel)
theorem cc81 {x0 : Int32} {x1 : Int32} {rest : List Value} (h : az_cat rest ≤ 8) : az_cc 81 az_S [.ref 0, .int x0, .int x1] rest := az_ccv (ci := 6) (sl := [some (some 1), some (some 5), some (some 18), some (some 28), some (some 36), some (some 106), none]) h rfl (by decide +kernel) (by decide +kernel)
theorem cc82 {x0 : Int32} {rest : List Value} (h : az_cat rest ≤ 8) : az_cc 82 az_S [.ref 0, .int x0] rest := az_ccv (ci := 6) (sl := [some (some 1), some (some 5), some (some 18), some (some 28), some (some 36), some (some 106), none]) h rfl (by decide +kernel) (by decide +kernel)
theorem cc83 {x0 : Int32} {x1 : Int32} {x2 : Int32} {rest : List Value} (h : az_cat rest ≤ 8) : az_cc 83 az_S [.ref 0, .int x0, .int x1, .int x2] rest := az_ccv (ci := 6) (sl := [some (some 1), some (some 5), some (some 18), some (some 28), some (some 36), some (some 106), none]) h rfl (by decide +kernel) (by decide +kernel)
theorem cc84 {x0 : Int32} {x1 : Int32} {rest : List Value} (h : az_cat rest ≤ 8) : az_cc 84 az_S [.ref 0, .int x0, .int x1] rest := az_ccv (ci := 6) (sl := [some (some 1), some (some 5), some (some 18), some (some 28), some (some 36), some (some 106), none]) h rfl (by decide +kernel) (by decide +kernel)
theorem cc85 {x0 : Int32} {rest : List Value} (h : az_cat rest ≤ 8) : az_cc 85 az_S [.ref 0, .int x0] rest := az_ccv (ci := 6) (sl := [some (some 1), some (some 5), some (some 18), some (some 28), some (some 36), some (some 106), none]) h rfl (by decide +kernel) (by decide +kernel)
theorem cc86 {x0 : Int32} {rest : List Value} (h : az_cat rest ≤ 8) : az_cc 86 az_S [.ref 0, .int x0] rest := az_ccv (ci := 6) (sl := [some (some 1), some (some 5), some (some 18), some (some 28), some (some 36), some (some 106), none]) h rfl (by decide +kernel) (by decide +kernel)
theorem cc87 {S : List az_Shp} {x0 : Int32} {rest : List Value} (h : az_cat rest ≤ 8) : az_cc 87 S [.int x0] rest := az_ccs h rfl (by decide +kernel)
theorem cc88 {S : List az_Shp} {x0 : Nat} {x1 : Int32} {rest : List Value} (h : az_cat rest ≤ 8) : az_cc 88 S [.ref x0, .int x1] rest := az_ccs h rfl (by decide +kernel)
theorem cc89 {S : List az_Shp} {x0 : Nat} {x1 : Int32} {rest : List Value} (h : az_cat rest ≤ 8) : az_cc 89 S [.ref x0, .int x1] rest := az_ccs h rfl (by decide +kernel)
theorem cc90 {S : List az_Shp} {x0 : Int32} {x1 : Int32} {rest : List Value} (h : az_cat rest ≤ 8) : az_cc 90 S [.int x0, .int x1] rest := az_ccs h rfl (by decide +kernel)
theorem cc91 {S : List az_Shp} {x0 : Nat} {x1 : Int32} {x2 : Int32} {x3 : Int32} {x4 : Int32} {x5 : Int32} {rest : List Value} (h : az_cat rest ≤ 8) : az_cc 91 S [.ref x0, .int x1, .int x2, .int x3, .int x4, .int x5] rest := az_ccs h rfl (by decide +kernel)
theorem cc92 {S : List az_Shp} {x0 : Nat} {x1 : Int32} {x2 : Int32} {x3 : Int32} {x4 : Int32} {x5 : Int32} {rest : List Value} (h : az_cat rest ≤ 8) : az_cc 92 S [.ref x0, .int x1, .int x2, .int x3, .int x4, .int x5] rest := az_ccs h rfl (by decide +kernel)
theorem cc93 {S : List az_Shp} {x0 : Nat} {x1 : Int32} {x2 : Int32} {x3 : Int32} {rest : List Value} (h : az_cat rest ≤ 8) : az_cc 93 S [.ref x0, .int x1, .int x2, .int x3] rest := az_ccs h rfl (by decide +kernel)
theorem cc94 {S : List az_Shp} {x0 : Int32} {rest : List Value} (h : az_cat rest ≤ 8) : az_cc 94 S [.int x0] rest := az_ccs h rfl (by decide +kernel)
theorem cc95 {S : List az_Shp} {x0 : Nat} {x1 : Int32} {rest : List Value} (h : az_cat rest ≤ 8) : az_cc 95 S [.ref x0, .int x1] rest := az_ccs h rfl (by decide +kernel)
theorem cc96 {S : List az_Shp} {x0 : Nat} {x1 : Nat} {x2 : Int32} {rest : List Value} (h : az_cat rest ≤ 8) : az_cc 96 S [.ref x0, .ref x1, .int x2] rest := az_ccs h rfl (by decide +kernel)
theorem cc97 {S : List az_Shp} {x0 : Nat} {rest : List Value} (h : az_cat rest ≤ 8) : az_cc 97 S [.ref x0] rest := az_ccs h rfl (by decide +kernel)
theorem cc98 {S : List az_Shp} {x0 : Nat} {x1 : Nat} {x2 : Int32} {rest : List Value} (h : az_cat rest ≤ 8) : az_cc 98 S [.ref x0, .ref x1, .int x2] rest := az_ccs h rfl (by decide +kernel)
theorem az_ex {α : Type} {w : α} {P : α → Prop} : (∃ v, some w = some v ∧ P v) ↔ P w := ⟨fun ⟨v, h, q⟩ => by cases h; exact q, fun h => ⟨w, rfl, h⟩⟩
theorem az_vi {x : Int32} : (Value.int x).category = 1 := by simp [Value.category]
theorem az_vr {x : Nat} : (Value.ref x).category = 1 := by simp [Value.category]
theorem az_i0 {p : Prop} [Decidable p] : ((if p then (1 : Int32) else 0) = 0) ↔ ¬ p := by
  by_cases h : p <;> simp [h]
theorem az_bo0 : az_bo 0 := rfl
theorem az_bo1 : az_bo 1 := rfl
theorem az_boi {p : Prop} [Decidable p] : az_bo (if p then 1 else 0) := by
  by_cases h : p
  · rw [if_pos h]; rfl
  · rw [if_neg h]; rfl
