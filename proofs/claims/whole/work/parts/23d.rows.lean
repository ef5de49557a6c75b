theorem s142_0 : T_il0 142 0 1 := w_iln0 (by decide +kernel)
theorem s142_1 : T_il0 142 1 2 := w_iln0 (by decide +kernel)
theorem s142_2 : T_ic 142 2 3 1 := w_ic1 (n := 1) (by decide +kernel) rfl
theorem s142_3 : T_iushr 142 3 4 := w_iushr (by decide +kernel)
theorem s142_4 : T_ic 142 4 7 1431655765 := w_ic5 (x := 265) (by decide +kernel) (by decide +kernel)
theorem s142_7 : T_iand 142 7 8 := w_iand (by decide +kernel)
theorem s142_8 : T_isub 142 8 9 := w_isub (by decide +kernel)
theorem s142_9 : T_is0 142 9 10 := w_isn0 (by decide +kernel)
theorem s142_10 : T_il0 142 10 11 := w_iln0 (by decide +kernel)
theorem s142_11 : T_ic 142 11 14 858993459 := w_ic5 (x := 266) (by decide +kernel) (by decide +kernel)
theorem s142_14 : T_iand 142 14 15 := w_iand (by decide +kernel)
theorem s142_15 : T_il0 142 15 16 := w_iln0 (by decide +kernel)
theorem s142_16 : T_ic 142 16 17 2 := w_ic1 (n := 2) (by decide +kernel) rfl
theorem s142_17 : T_iushr 142 17 18 := w_iushr (by decide +kernel)
theorem s142_18 : T_ic 142 18 21 858993459 := w_ic5 (x := 266) (by decide +kernel) (by decide +kernel)
theorem s142_21 : T_iand 142 21 22 := w_iand (by decide +kernel)
theorem s142_22 : T_iadd 142 22 23 := w_iadd (by decide +kernel)
theorem s142_23 : T_is0 142 23 24 := w_isn0 (by decide +kernel)
theorem s142_24 : T_il0 142 24 25 := w_iln0 (by decide +kernel)
theorem s142_25 : T_il0 142 25 26 := w_iln0 (by decide +kernel)
theorem s142_26 : T_ic 142 26 27 4 := w_ic1 (n := 4) (by decide +kernel) rfl
theorem s142_27 : T_iushr 142 27 28 := w_iushr (by decide +kernel)
theorem s142_28 : T_iadd 142 28 29 := w_iadd (by decide +kernel)
theorem s142_29 : T_ic 142 29 32 252645135 := w_ic5 (x := 267) (by decide +kernel) (by decide +kernel)
theorem s142_32 : T_iand 142 32 33 := w_iand (by decide +kernel)
theorem s142_33 : T_is0 142 33 34 := w_isn0 (by decide +kernel)
theorem s142_34 : T_il0 142 34 35 := w_iln0 (by decide +kernel)
theorem s142_35 : T_il0 142 35 36 := w_iln0 (by decide +kernel)
theorem s142_36 : T_ic 142 36 38 8 := w_ic2 (n := 8) (by decide +kernel) (by decide +kernel)
theorem s142_38 : T_iushr 142 38 39 := w_iushr (by decide +kernel)
theorem s142_39 : T_iadd 142 39 40 := w_iadd (by decide +kernel)
theorem s142_40 : T_is0 142 40 41 := w_isn0 (by decide +kernel)
theorem s142_41 : T_il0 142 41 42 := w_iln0 (by decide +kernel)
theorem s142_42 : T_il0 142 42 43 := w_iln0 (by decide +kernel)
theorem s142_43 : T_ic 142 43 45 16 := w_ic2 (n := 16) (by decide +kernel) (by decide +kernel)
theorem s142_45 : T_iushr 142 45 46 := w_iushr (by decide +kernel)
theorem s142_46 : T_iadd 142 46 47 := w_iadd (by decide +kernel)
theorem s142_47 : T_is0 142 47 48 := w_isn0 (by decide +kernel)
theorem s142_48 : T_il0 142 48 49 := w_iln0 (by decide +kernel)
theorem s142_49 : T_ic 142 49 51 63 := w_ic2 (n := 63) (by decide +kernel) (by decide +kernel)
theorem s142_51 : T_iand 142 51 52 := w_iand (by decide +kernel)
theorem s142_52 : T_ir 142 52 := w_ir (by decide +kernel) (by decide +kernel)
theorem C142 {xs : az_X} {d : Nat} {b0 : Value} {G : az_G} {K : az_O → Prop} : az_C xs (d + 1) 142 [b0] G K ↔ az_W xs d 142 0 [some b0] [] G K := Iff.rfl
theorem th142 {xs : az_X} {d pc n : Nat} {L : az_Ls} {v : Option Value} {G : az_G} {K : az_O → Prop} : az_thn xs d 142 pc L K (n, v, G) ↔ K (n, none, G) := az_thn_n (by decide +kernel) (by decide)
theorem s143_0 : T_ic 143 0 1 0 := w_ic1 (n := 0) (by decide +kernel) rfl
theorem s143_1 : T_is2 143 1 2 := w_isn2 (by decide +kernel)
theorem s143_2 : T_al0 143 2 3 := w_aln0 (by decide +kernel)
theorem s143_3 : T_len 143 3 4 := w_len (by decide +kernel) (by decide)
theorem s143_4 : T_is3 143 4 5 := w_isn3 (by decide +kernel)
theorem s143_5 : T_il2 143 5 6 := w_iln2 (by decide +kernel)
theorem s143_6 : T_il3 143 6 7 := w_iln3 (by decide +kernel)
theorem s143_7 : T_ic_ge 143 7 10 20 := w_ic_ge (off := 13) (by decide +kernel) (by decide +kernel)
theorem s143_10 : T_al0 143 10 11 := w_aln0 (by decide +kernel)
theorem s143_11 : T_il2 143 11 12 := w_iln2 (by decide +kernel)
theorem s143_12 : T_il1 143 12 13 := w_iln1 (by decide +kernel)
theorem s143_13 : T_iast 143 13 14 := w_iast (by decide +kernel)
theorem s143_14 : T_inc2 143 14 17 1 := w_inc2 (c := 1) (by decide +kernel) (by decide +kernel)
theorem s143_17 : T_goto 143 17 5 := w_goto (off := (-12)) (by decide +kernel) (by decide +kernel)
theorem s143_20 : T_rt 143 20 := w_rt (by decide +kernel) (by decide +kernel)
theorem C143 {xs : az_X} {d : Nat} {b0 : Value} {b1 : Value} {G : az_G} {K : az_O → Prop} : az_C xs (d + 1) 143 [b0, b1] G K ↔ az_W xs d 143 0 [some b0, some b1, none, none] [] G K := Iff.rfl
theorem th143 {xs : az_X} {d pc n : Nat} {L : az_Ls} {v : Option Value} {G : az_G} {K : az_O → Prop} : az_thn xs d 143 pc L K (n, v, G) ↔ K (n, none, G) := az_thn_n (by decide +kernel) (by decide)
theorem s144_0 : T_al5 144 0 2 := w_al5 (by decide +kernel)
theorem s144_2 : T_ic 144 2 3 0 := w_ic1 (n := 0) (by decide +kernel) rfl
theorem s144_3 : T_al0 144 3 4 := w_aln0 (by decide +kernel)
theorem s144_4 : T_il1 144 4 5 := w_iln1 (by decide +kernel)
theorem s144_5 : T_il2 144 5 6 := w_iln2 (by decide +kernel)
theorem s144_6 : T_il3 144 6 7 := w_iln3 (by decide +kernel)
theorem s144_7 : T_il4 144 7 9 := w_il4 (by decide +kernel)
theorem s144_9 : T_ca5 144 9 12 41 := w_ca5 (x := 7) (i := .invokevirtual 7) (by decide +kernel) (by decide +kernel) (Or.inl ⟨rfl, by decide +kernel⟩)
theorem s144_12 : T_i2l 144 12 13 := w_i2l (by decide +kernel)
theorem s144_13 : T_last 144 13 14 := w_last (by decide +kernel)
theorem s144_14 : T_goto 144 14 25 := w_goto (off := 11) (by decide +kernel) (by decide +kernel)
theorem s144_17 : T_as6 144 17 19 := w_as6 (by decide +kernel)
theorem s144_19 : T_ic 144 19 20 1 := w_ic1 (n := 1) (by decide +kernel) rfl
theorem s144_20 : T_ir 144 20 := w_ir (by decide +kernel) (by decide +kernel)
theorem s144_21 : T_as6 144 21 23 := w_as6 (by decide +kernel)
theorem s144_23 : T_ic 144 23 24 2 := w_ic1 (n := 2) (by decide +kernel) rfl
theorem s144_24 : T_ir 144 24 := w_ir (by decide +kernel) (by decide +kernel)
theorem s144_25 : T_ic 144 25 26 0 := w_ic1 (n := 0) (by decide +kernel) rfl
theorem s144_26 : T_ir 144 26 := w_ir (by decide +kernel) (by decide +kernel)
theorem C144 {xs : az_X} {d : Nat} {b0 : Value} {b1 : Value} {b2 : Value} {b3 : Value} {b4 : Value} {b5 : Value} {G : az_G} {K : az_O → Prop} : az_C xs (d + 1) 144 [b0, b1, b2, b3, b4, b5] G K ↔ az_W xs d 144 0 [some b0, some b1, some b2, some b3, some b4, some b5, none] [] G K := Iff.rfl
theorem th144_1 {xs : az_X} {d : Nat} {L : az_Ls} {v : Option Value} {G : az_G} {K : az_O → Prop} : az_thn xs d 144 9 L K (1, v, G) ↔ az_W xs d 144 19 (L.set 6 none) [] G K := az_thn_h (by decide +kernel)
theorem th144_2 {xs : az_X} {d : Nat} {L : az_Ls} {v : Option Value} {G : az_G} {K : az_O → Prop} : az_thn xs d 144 9 L K (2, v, G) ↔ az_W xs d 144 23 (L.set 6 none) [] G K := az_thn_h (by decide +kernel)
theorem s145_0 : T_al3 145 0 1 := w_aln3 (by decide +kernel)
theorem s145_1 : T_ic 145 1 2 0 := w_ic1 (n := 0) (by decide +kernel) rfl
theorem s145_2 : T_al0 145 2 3 := w_aln0 (by decide +kernel)
theorem s145_3 : T_il1 145 3 4 := w_iln1 (by decide +kernel)
theorem s145_4 : T_il2 145 4 5 := w_iln2 (by decide +kernel)
theorem s145_5 : T_ca3 145 5 8 42 := w_ca3 (x := 17) (i := .invokevirtual 17) (by decide +kernel) (by decide +kernel) (Or.inl ⟨rfl, by decide +kernel⟩)
theorem s145_8 : T_i2l 145 8 9 := w_i2l (by decide +kernel)
theorem s145_9 : T_last 145 9 10 := w_last (by decide +kernel)
theorem s145_10 : T_goto 145 10 21 := w_goto (off := 11) (by decide +kernel) (by decide +kernel)
theorem s145_13 : T_as4 145 13 15 := w_as4 (by decide +kernel)
theorem s145_15 : T_ic 145 15 16 1 := w_ic1 (n := 1) (by decide +kernel) rfl
theorem s145_16 : T_ir 145 16 := w_ir (by decide +kernel) (by decide +kernel)
theorem s145_17 : T_as4 145 17 19 := w_as4 (by decide +kernel)
theorem s145_19 : T_ic 145 19 20 2 := w_ic1 (n := 2) (by decide +kernel) rfl
theorem s145_20 : T_ir 145 20 := w_ir (by decide +kernel) (by decide +kernel)
theorem s145_21 : T_ic 145 21 22 0 := w_ic1 (n := 0) (by decide +kernel) rfl
theorem s145_22 : T_ir 145 22 := w_ir (by decide +kernel) (by decide +kernel)
theorem C145 {xs : az_X} {d : Nat} {b0 : Value} {b1 : Value} {b2 : Value} {b3 : Value} {G : az_G} {K : az_O → Prop} : az_C xs (d + 1) 145 [b0, b1, b2, b3] G K ↔ az_W xs d 145 0 [some b0, some b1, some b2, some b3, none] [] G K := Iff.rfl
theorem th145_1 {xs : az_X} {d : Nat} {L : az_Ls} {v : Option Value} {G : az_G} {K : az_O → Prop} : az_thn xs d 145 5 L K (1, v, G) ↔ az_W xs d 145 15 (L.set 4 none) [] G K := az_thn_h (by decide +kernel)
theorem th145_2 {xs : az_X} {d : Nat} {L : az_Ls} {v : Option Value} {G : az_G} {K : az_O → Prop} : az_thn xs d 145 5 L K (2, v, G) ↔ az_W xs d 145 19 (L.set 4 none) [] G K := az_thn_h (by decide +kernel)
theorem s146_0 : T_al4 146 0 2 := w_al4 (by decide +kernel)
theorem s146_2 : T_ic 146 2 3 0 := w_ic1 (n := 0) (by decide +kernel) rfl
theorem s146_3 : T_al0 146 3 4 := w_aln0 (by decide +kernel)
theorem s146_4 : T_il1 146 4 5 := w_iln1 (by decide +kernel)
theorem s146_5 : T_il2 146 5 6 := w_iln2 (by decide +kernel)
theorem s146_6 : T_il3 146 6 7 := w_iln3 (by decide +kernel)
theorem s146_7 : T_ca4 146 7 10 43 := w_ca4 (x := 21) (i := .invokevirtual 21) (by decide +kernel) (by decide +kernel) (Or.inl ⟨rfl, by decide +kernel⟩)
theorem s146_10 : T_i2l 146 10 11 := w_i2l (by decide +kernel)
theorem s146_11 : T_last 146 11 12 := w_last (by decide +kernel)
theorem s146_12 : T_goto 146 12 27 := w_goto (off := 15) (by decide +kernel) (by decide +kernel)
theorem s146_15 : T_as5 146 15 17 := w_as5 (by decide +kernel)
theorem s146_17 : T_ic 146 17 18 1 := w_ic1 (n := 1) (by decide +kernel) rfl
theorem s146_18 : T_ir 146 18 := w_ir (by decide +kernel) (by decide +kernel)
theorem s146_19 : T_as5 146 19 21 := w_as5 (by decide +kernel)
theorem s146_21 : T_ic 146 21 22 2 := w_ic1 (n := 2) (by decide +kernel) rfl
theorem s146_22 : T_ir 146 22 := w_ir (by decide +kernel) (by decide +kernel)
theorem s146_23 : T_as5 146 23 25 := w_as5 (by decide +kernel)
theorem s146_25 : T_ic 146 25 26 3 := w_ic1 (n := 3) (by decide +kernel) rfl
theorem s146_26 : T_ir 146 26 := w_ir (by decide +kernel) (by decide +kernel)
theorem s146_27 : T_ic 146 27 28 0 := w_ic1 (n := 0) (by decide +kernel) rfl
theorem s146_28 : T_ir 146 28 := w_ir (by decide +kernel) (by decide +kernel)
theorem C146 {xs : az_X} {d : Nat} {b0 : Value} {b1 : Value} {b2 : Value} {b3 : Value} {b4 : Value} {G : az_G} {K : az_O → Prop} : az_C xs (d + 1) 146 [b0, b1, b2, b3, b4] G K ↔ az_W xs d 146 0 [some b0, some b1, some b2, some b3, some b4, none] [] G K := Iff.rfl
theorem th146_1 {xs : az_X} {d : Nat} {L : az_Ls} {v : Option Value} {G : az_G} {K : az_O → Prop} : az_thn xs d 146 7 L K (1, v, G) ↔ az_W xs d 146 17 (L.set 5 none) [] G K := az_thn_h (by decide +kernel)
theorem th146_2 {xs : az_X} {d : Nat} {L : az_Ls} {v : Option Value} {G : az_G} {K : az_O → Prop} : az_thn xs d 146 7 L K (2, v, G) ↔ az_W xs d 146 21 (L.set 5 none) [] G K := az_thn_h (by decide +kernel)
theorem th146_3 {xs : az_X} {d : Nat} {L : az_Ls} {v : Option Value} {G : az_G} {K : az_O → Prop} : az_thn xs d 146 7 L K (3, v, G) ↔ az_W xs d 146 25 (L.set 5 none) [] G K := az_thn_h (by decide +kernel)
theorem s147_0 : T_al4 147 0 2 := w_al4 (by decide +kernel)
theorem s147_2 : T_ic 147 2 3 0 := w_ic1 (n := 0) (by decide +kernel) rfl
theorem s147_3 : T_al0 147 3 4 := w_aln0 (by decide +kernel)
theorem s147_4 : T_il1 147 4 5 := w_iln1 (by decide +kernel)
theorem s147_5 : T_il2 147 5 6 := w_iln2 (by decide +kernel)
theorem s147_6 : T_il3 147 6 7 := w_iln3 (by decide +kernel)
theorem s147_7 : T_ca4 147 7 10 44 := w_ca4 (x := 27) (i := .invokevirtual 27) (by decide +kernel) (by decide +kernel) (Or.inl ⟨rfl, by decide +kernel⟩)
theorem s147_10 : T_i2l 147 10 11 := w_i2l (by decide +kernel)
theorem s147_11 : T_last 147 11 12 := w_last (by decide +kernel)
theorem s147_12 : T_goto 147 12 27 := w_goto (off := 15) (by decide +kernel) (by decide +kernel)
theorem s147_15 : T_as5 147 15 17 := w_as5 (by decide +kernel)
theorem s147_17 : T_ic 147 17 18 1 := w_ic1 (n := 1) (by decide +kernel) rfl
theorem s147_18 : T_ir 147 18 := w_ir (by decide +kernel) (by decide +kernel)
theorem s147_19 : T_as5 147 19 21 := w_as5 (by decide +kernel)
theorem s147_21 : T_ic 147 21 22 2 := w_ic1 (n := 2) (by decide +kernel) rfl
theorem s147_22 : T_ir 147 22 := w_ir (by decide +kernel) (by decide +kernel)
theorem s147_23 : T_as5 147 23 25 := w_as5 (by decide +kernel)
theorem s147_25 : T_ic 147 25 26 3 := w_ic1 (n := 3) (by decide +kernel) rfl
theorem s147_26 : T_ir 147 26 := w_ir (by decide +kernel) (by decide +kernel)
theorem s147_27 : T_ic 147 27 28 0 := w_ic1 (n := 0) (by decide +kernel) rfl
theorem s147_28 : T_ir 147 28 := w_ir (by decide +kernel) (by decide +kernel)
theorem C147 {xs : az_X} {d : Nat} {b0 : Value} {b1 : Value} {b2 : Value} {b3 : Value} {b4 : Value} {G : az_G} {K : az_O → Prop} : az_C xs (d + 1) 147 [b0, b1, b2, b3, b4] G K ↔ az_W xs d 147 0 [some b0, some b1, some b2, some b3, some b4, none] [] G K := Iff.rfl
theorem th147_1 {xs : az_X} {d : Nat} {L : az_Ls} {v : Option Value} {G : az_G} {K : az_O → Prop} : az_thn xs d 147 7 L K (1, v, G) ↔ az_W xs d 147 17 (L.set 5 none) [] G K := az_thn_h (by decide +kernel)
theorem th147_2 {xs : az_X} {d : Nat} {L : az_Ls} {v : Option Value} {G : az_G} {K : az_O → Prop} : az_thn xs d 147 7 L K (2, v, G) ↔ az_W xs d 147 21 (L.set 5 none) [] G K := az_thn_h (by decide +kernel)
theorem th147_3 {xs : az_X} {d : Nat} {L : az_Ls} {v : Option Value} {G : az_G} {K : az_O → Prop} : az_thn xs d 147 7 L K (3, v, G) ↔ az_W xs d 147 25 (L.set 5 none) [] G K := az_thn_h (by decide +kernel)
theorem s148_0 : T_al4 148 0 2 := w_al4 (by decide +kernel)
theorem s148_2 : T_ic 148 2 3 0 := w_ic1 (n := 0) (by decide +kernel) rfl
theorem s148_3 : T_al0 148 3 4 := w_aln0 (by decide +kernel)
theorem s148_4 : T_il1 148 4 5 := w_iln1 (by decide +kernel)
theorem s148_5 : T_il2 148 5 6 := w_iln2 (by decide +kernel)
theorem s148_6 : T_il3 148 6 7 := w_iln3 (by decide +kernel)
theorem s148_7 : T_ca4 148 7 10 45 := w_ca4 (x := 31) (i := .invokevirtual 31) (by decide +kernel) (by decide +kernel) (Or.inl ⟨rfl, by decide +kernel⟩)
theorem s148_10 : T_i2l 148 10 11 := w_i2l (by decide +kernel)
theorem s148_11 : T_last 148 11 12 := w_last (by decide +kernel)
theorem s148_12 : T_goto 148 12 23 := w_goto (off := 11) (by decide +kernel) (by decide +kernel)
theorem s148_15 : T_as5 148 15 17 := w_as5 (by decide +kernel)
theorem s148_17 : T_ic 148 17 18 1 := w_ic1 (n := 1) (by decide +kernel) rfl
theorem s148_18 : T_ir 148 18 := w_ir (by decide +kernel) (by decide +kernel)
theorem s148_19 : T_as5 148 19 21 := w_as5 (by decide +kernel)
theorem s148_21 : T_ic 148 21 22 2 := w_ic1 (n := 2) (by decide +kernel) rfl
theorem s148_22 : T_ir 148 22 := w_ir (by decide +kernel) (by decide +kernel)
theorem s148_23 : T_ic 148 23 24 0 := w_ic1 (n := 0) (by decide +kernel) rfl
theorem s148_24 : T_ir 148 24 := w_ir (by decide +kernel) (by decide +kernel)
theorem C148 {xs : az_X} {d : Nat} {b0 : Value} {b1 : Value} {b2 : Value} {b3 : Value} {b4 : Value} {G : az_G} {K : az_O → Prop} : az_C xs (d + 1) 148 [b0, b1, b2, b3, b4] G K ↔ az_W xs d 148 0 [some b0, some b1, some b2, some b3, some b4, none] [] G K := Iff.rfl
theorem th148_2 {xs : az_X} {d : Nat} {L : az_Ls} {v : Option Value} {G : az_G} {K : az_O → Prop} : az_thn xs d 148 7 L K (2, v, G) ↔ az_W xs d 148 17 (L.set 5 none) [] G K := az_thn_h (by decide +kernel)
theorem th148_3 {xs : az_X} {d : Nat} {L : az_Ls} {v : Option Value} {G : az_G} {K : az_O → Prop} : az_thn xs d 148 7 L K (3, v, G) ↔ az_W xs d 148 21 (L.set 5 none) [] G K := az_thn_h (by decide +kernel)
theorem s149_0 : T_al4 149 0 2 := w_al4 (by decide +kernel)
theorem s149_2 : T_ic 149 2 3 0 := w_ic1 (n := 0) (by decide +kernel) rfl
theorem s149_3 : T_al0 149 3 4 := w_aln0 (by decide +kernel)
theorem s149_4 : T_il1 149 4 5 := w_iln1 (by decide +kernel)
theorem s149_5 : T_il2 149 5 6 := w_iln2 (by decide +kernel)
theorem s149_6 : T_il3 149 6 7 := w_iln3 (by decide +kernel)
theorem s149_7 : T_ca4 149 7 10 46 := w_ca4 (x := 35) (i := .invokevirtual 35) (by decide +kernel) (by decide +kernel) (Or.inl ⟨rfl, by decide +kernel⟩)
theorem s149_10 : T_if_eq 149 10 13 17 := w_if_eq (off := 7) (by decide +kernel) (by decide +kernel)
theorem s149_13 : T_lc 149 13 14 1 := w_lc (n := 1) (by decide +kernel) rfl
theorem s149_14 : T_goto 149 14 18 := w_goto (off := 4) (by decide +kernel) (by decide +kernel)
theorem s149_17 : T_lc 149 17 18 0 := w_lc (n := 0) (by decide +kernel) rfl
theorem s149_18 : T_last 149 18 19 := w_last (by decide +kernel)
theorem s149_19 : T_goto 149 19 30 := w_goto (off := 11) (by decide +kernel) (by decide +kernel)
theorem s149_22 : T_as5 149 22 24 := w_as5 (by decide +kernel)
theorem s149_24 : T_ic 149 24 25 1 := w_ic1 (n := 1) (by decide +kernel) rfl
theorem s149_25 : T_ir 149 25 := w_ir (by decide +kernel) (by decide +kernel)
theorem s149_26 : T_as5 149 26 28 := w_as5 (by decide +kernel)
theorem s149_28 : T_ic 149 28 29 2 := w_ic1 (n := 2) (by decide +kernel) rfl
theorem s149_29 : T_ir 149 29 := w_ir (by decide +kernel) (by decide +kernel)
theorem s149_30 : T_ic 149 30 31 0 := w_ic1 (n := 0) (by decide +kernel) rfl
theorem s149_31 : T_ir 149 31 := w_ir (by decide +kernel) (by decide +kernel)
theorem C149 {xs : az_X} {d : Nat} {b0 : Value} {b1 : Value} {b2 : Value} {b3 : Value} {b4 : Value} {G : az_G} {K : az_O → Prop} : az_C xs (d + 1) 149 [b0, b1, b2, b3, b4] G K ↔ az_W xs d 149 0 [some b0, some b1, some b2, some b3, some b4, none] [] G K := Iff.rfl
theorem th149_1 {xs : az_X} {d : Nat} {L : az_Ls} {v : Option Value} {G : az_G} {K : az_O → Prop} : az_thn xs d 149 7 L K (1, v, G) ↔ az_W xs d 149 24 (L.set 5 none) [] G K := az_thn_h (by decide +kernel)
theorem th149_2 {xs : az_X} {d : Nat} {L : az_Ls} {v : Option Value} {G : az_G} {K : az_O → Prop} : az_thn xs d 149 7 L K (2, v, G) ↔ az_W xs d 149 28 (L.set 5 none) [] G K := az_thn_h (by decide +kernel)
theorem s150_0 : T_al2 150 0 1 := w_aln2 (by decide +kernel)
theorem s150_1 : T_ic 150 1 2 0 := w_ic1 (n := 0) (by decide +kernel) rfl
theorem s150_2 : T_al0 150 2 3 := w_aln0 (by decide +kernel)
theorem s150_3 : T_il1 150 3 4 := w_iln1 (by decide +kernel)
theorem s150_4 : T_ca2 150 4 7 47 := w_ca2 (x := 39) (i := .invokevirtual 39) (by decide +kernel) (by decide +kernel) (Or.inl ⟨rfl, by decide +kernel⟩)
theorem s150_7 : T_i2l 150 7 8 := w_i2l (by decide +kernel)
theorem s150_8 : T_last 150 8 9 := w_last (by decide +kernel)
theorem s150_9 : T_goto 150 9 15 := w_goto (off := 6) (by decide +kernel) (by decide +kernel)
theorem s150_12 : T_as3 150 12 13 := w_asn3 (by decide +kernel)
theorem s150_13 : T_ic 150 13 14 1 := w_ic1 (n := 1) (by decide +kernel) rfl
theorem s150_14 : T_ir 150 14 := w_ir (by decide +kernel) (by decide +kernel)
theorem s150_15 : T_ic 150 15 16 0 := w_ic1 (n := 0) (by decide +kernel) rfl
theorem s150_16 : T_ir 150 16 := w_ir (by decide +kernel) (by decide +kernel)
theorem C150 {xs : az_X} {d : Nat} {b0 : Value} {b1 : Value} {b2 : Value} {G : az_G} {K : az_O → Prop} : az_C xs (d + 1) 150 [b0, b1, b2] G K ↔ az_W xs d 150 0 [some b0, some b1, some b2, none] [] G K := Iff.rfl
theorem th150_2 {xs : az_X} {d : Nat} {L : az_Ls} {v : Option Value} {G : az_G} {K : az_O → Prop} : az_thn xs d 150 4 L K (2, v, G) ↔ az_W xs d 150 13 (L.set 3 none) [] G K := az_thn_h (by decide +kernel)
theorem s151_0 : T_al2 151 0 1 := w_aln2 (by decide +kernel)
theorem s151_1 : T_ic 151 1 2 0 := w_ic1 (n := 0) (by decide +kernel) rfl
theorem s151_2 : T_al0 151 2 3 := w_aln0 (by decide +kernel)
theorem s151_3 : T_il1 151 3 4 := w_iln1 (by decide +kernel)
theorem s151_4 : T_ca2 151 4 7 48 := w_ca2 (x := 43) (i := .invokevirtual 43) (by decide +kernel) (by decide +kernel) (Or.inl ⟨rfl, by decide +kernel⟩)
theorem s151_7 : T_i2l 151 7 8 := w_i2l (by decide +kernel)
theorem s151_8 : T_last 151 8 9 := w_last (by decide +kernel)
theorem s151_9 : T_goto 151 9 15 := w_goto (off := 6) (by decide +kernel) (by decide +kernel)
theorem s151_12 : T_as3 151 12 13 := w_asn3 (by decide +kernel)
theorem s151_13 : T_ic 151 13 14 1 := w_ic1 (n := 1) (by decide +kernel) rfl
theorem s151_14 : T_ir 151 14 := w_ir (by decide +kernel) (by decide +kernel)
theorem s151_15 : T_ic 151 15 16 0 := w_ic1 (n := 0) (by decide +kernel) rfl
theorem s151_16 : T_ir 151 16 := w_ir (by decide +kernel) (by decide +kernel)
theorem C151 {xs : az_X} {d : Nat} {b0 : Value} {b1 : Value} {b2 : Value} {G : az_G} {K : az_O → Prop} : az_C xs (d + 1) 151 [b0, b1, b2] G K ↔ az_W xs d 151 0 [some b0, some b1, some b2, none] [] G K := Iff.rfl
theorem th151_2 {xs : az_X} {d : Nat} {L : az_Ls} {v : Option Value} {G : az_G} {K : az_O → Prop} : az_thn xs d 151 4 L K (2, v, G) ↔ az_W xs d 151 13 (L.set 3 none) [] G K := az_thn_h (by decide +kernel)
theorem s152_0 : T_al2 152 0 1 := w_aln2 (by decide +kernel)
theorem s152_1 : T_ic 152 1 2 0 := w_ic1 (n := 0) (by decide +kernel) rfl
theorem s152_2 : T_al0 152 2 3 := w_aln0 (by decide +kernel)
theorem s152_3 : T_il1 152 3 4 := w_iln1 (by decide +kernel)
theorem s152_4 : T_ca2 152 4 7 49 := w_ca2 (x := 46) (i := .invokevirtual 46) (by decide +kernel) (by decide +kernel) (Or.inl ⟨rfl, by decide +kernel⟩)
theorem s152_7 : T_i2l 152 7 8 := w_i2l (by decide +kernel)
theorem s152_8 : T_last 152 8 9 := w_last (by decide +kernel)
theorem s152_9 : T_goto 152 9 15 := w_goto (off := 6) (by decide +kernel) (by decide +kernel)
theorem s152_12 : T_as3 152 12 13 := w_asn3 (by decide +kernel)
theorem s152_13 : T_ic 152 13 14 1 := w_ic1 (n := 1) (by decide +kernel) rfl
theorem s152_14 : T_ir 152 14 := w_ir (by decide +kernel) (by decide +kernel)
theorem s152_15 : T_ic 152 15 16 0 := w_ic1 (n := 0) (by decide +kernel) rfl
theorem s152_16 : T_ir 152 16 := w_ir (by decide +kernel) (by decide +kernel)
theorem C152 {xs : az_X} {d : Nat} {b0 : Value} {b1 : Value} {b2 : Value} {G : az_G} {K : az_O → Prop} : az_C xs (d + 1) 152 [b0, b1, b2] G K ↔ az_W xs d 152 0 [some b0, some b1, some b2, none] [] G K := Iff.rfl
theorem th152_2 {xs : az_X} {d : Nat} {L : az_Ls} {v : Option Value} {G : az_G} {K : az_O → Prop} : az_thn xs d 152 4 L K (2, v, G) ↔ az_W xs d 152 13 (L.set 3 none) [] G K := az_thn_h (by decide +kernel)
theorem s153_0 : T_al3 153 0 1 := w_aln3 (by decide +kernel)
theorem s153_1 : T_ic 153 1 2 0 := w_ic1 (n := 0) (by decide +kernel) rfl
theorem s153_2 : T_al0 153 2 3 := w_aln0 (by decide +kernel)
theorem s153_3 : T_il1 153 3 4 := w_iln1 (by decide +kernel)
theorem s153_4 : T_il2 153 4 5 := w_iln2 (by decide +kernel)
theorem s153_5 : T_ca3 153 5 8 50 := w_ca3 (x := 49) (i := .invokevirtual 49) (by decide +kernel) (by decide +kernel) (Or.inl ⟨rfl, by decide +kernel⟩)
theorem s153_8 : T_i2l 153 8 9 := w_i2l (by decide +kernel)
theorem s153_9 : T_last 153 9 10 := w_last (by decide +kernel)
theorem s153_10 : T_goto 153 10 25 := w_goto (off := 15) (by decide +kernel) (by decide +kernel)
theorem s153_13 : T_as4 153 13 15 := w_as4 (by decide +kernel)
theorem s153_15 : T_ic 153 15 16 1 := w_ic1 (n := 1) (by decide +kernel) rfl
theorem s153_16 : T_ir 153 16 := w_ir (by decide +kernel) (by decide +kernel)
theorem s153_17 : T_as4 153 17 19 := w_as4 (by decide +kernel)
theorem s153_19 : T_ic 153 19 20 2 := w_ic1 (n := 2) (by decide +kernel) rfl
theorem s153_20 : T_ir 153 20 := w_ir (by decide +kernel) (by decide +kernel)
theorem s153_21 : T_as4 153 21 23 := w_as4 (by decide +kernel)
theorem s153_23 : T_ic 153 23 24 3 := w_ic1 (n := 3) (by decide +kernel) rfl
theorem s153_24 : T_ir 153 24 := w_ir (by decide +kernel) (by decide +kernel)
theorem s153_25 : T_ic 153 25 26 0 := w_ic1 (n := 0) (by decide +kernel) rfl
theorem s153_26 : T_ir 153 26 := w_ir (by decide +kernel) (by decide +kernel)
theorem C153 {xs : az_X} {d : Nat} {b0 : Value} {b1 : Value} {b2 : Value} {b3 : Value} {G : az_G} {K : az_O → Prop} : az_C xs (d + 1) 153 [b0, b1, b2, b3] G K ↔ az_W xs d 153 0 [some b0, some b1, some b2, some b3, none] [] G K := Iff.rfl
theorem th153_1 {xs : az_X} {d : Nat} {L : az_Ls} {v : Option Value} {G : az_G} {K : az_O → Prop} : az_thn xs d 153 5 L K (1, v, G) ↔ az_W xs d 153 15 (L.set 4 none) [] G K := az_thn_h (by decide +kernel)
theorem th153_2 {xs : az_X} {d : Nat} {L : az_Ls} {v : Option Value} {G : az_G} {K : az_O → Prop} : az_thn xs d 153 5 L K (2, v, G) ↔ az_W xs d 153 19 (L.set 4 none) [] G K := az_thn_h (by decide +kernel)
theorem th153_3 {xs : az_X} {d : Nat} {L : az_Ls} {v : Option Value} {G : az_G} {K : az_O → Prop} : az_thn xs d 153 5 L K (3, v, G) ↔ az_W xs d 153 23 (L.set 4 none) [] G K := az_thn_h (by decide +kernel)
theorem s154_0 : T_al3 154 0 1 := w_aln3 (by decide +kernel)
theorem s154_1 : T_ic 154 1 2 0 := w_ic1 (n := 0) (by decide +kernel) rfl
theorem s154_2 : T_al0 154 2 3 := w_aln0 (by decide +kernel)
theorem s154_3 : T_il1 154 3 4 := w_iln1 (by decide +kernel)
theorem s154_4 : T_il2 154 4 5 := w_iln2 (by decide +kernel)
theorem s154_5 : T_ca3 154 5 8 51 := w_ca3 (x := 52) (i := .invokevirtual 52) (by decide +kernel) (by decide +kernel) (Or.inl ⟨rfl, by decide +kernel⟩)
theorem s154_8 : T_i2l 154 8 9 := w_i2l (by decide +kernel)
theorem s154_9 : T_last 154 9 10 := w_last (by decide +kernel)
theorem s154_10 : T_goto 154 10 21 := w_goto (off := 11) (by decide +kernel) (by decide +kernel)
theorem s154_13 : T_as4 154 13 15 := w_as4 (by decide +kernel)
theorem s154_15 : T_ic 154 15 16 1 := w_ic1 (n := 1) (by decide +kernel) rfl
theorem s154_16 : T_ir 154 16 := w_ir (by decide +kernel) (by decide +kernel)
theorem s154_17 : T_as4 154 17 19 := w_as4 (by decide +kernel)
theorem s154_19 : T_ic 154 19 20 2 := w_ic1 (n := 2) (by decide +kernel) rfl
theorem s154_20 : T_ir 154 20 := w_ir (by decide +kernel) (by decide +kernel)
theorem s154_21 : T_ic 154 21 22 0 := w_ic1 (n := 0) (by decide +kernel) rfl
theorem s154_22 : T_ir 154 22 := w_ir (by decide +kernel) (by decide +kernel)
theorem C154 {xs : az_X} {d : Nat} {b0 : Value} {b1 : Value} {b2 : Value} {b3 : Value} {G : az_G} {K : az_O → Prop} : az_C xs (d + 1) 154 [b0, b1, b2, b3] G K ↔ az_W xs d 154 0 [some b0, some b1, some b2, some b3, none] [] G K := Iff.rfl
theorem th154_1 {xs : az_X} {d : Nat} {L : az_Ls} {v : Option Value} {G : az_G} {K : az_O → Prop} : az_thn xs d 154 5 L K (1, v, G) ↔ az_W xs d 154 15 (L.set 4 none) [] G K := az_thn_h (by decide +kernel)
theorem th154_2 {xs : az_X} {d : Nat} {L : az_Ls} {v : Option Value} {G : az_G} {K : az_O → Prop} : az_thn xs d 154 5 L K (2, v, G) ↔ az_W xs d 154 19 (L.set 4 none) [] G K := az_thn_h (by decide +kernel)
theorem s155_0 : T_al3 155 0 1 := w_aln3 (by decide +kernel)
theorem s155_1 : T_ic 155 1 2 0 := w_ic1 (n := 0) (by decide +kernel) rfl
theorem s155_2 : T_al0 155 2 3 := w_aln0 (by decide +kernel)
theorem s155_3 : T_il1 155 3 4 := w_iln1 (by decide +kernel)
theorem s155_4 : T_il2 155 4 5 := w_iln2 (by decide +kernel)
theorem s155_5 : T_ca3 155 5 8 52 := w_ca3 (x := 55) (i := .invokevirtual 55) (by decide +kernel) (by decide +kernel) (Or.inl ⟨rfl, by decide +kernel⟩)
theorem s155_8 : T_i2l 155 8 9 := w_i2l (by decide +kernel)
theorem s155_9 : T_last 155 9 10 := w_last (by decide +kernel)
theorem s155_10 : T_goto 155 10 25 := w_goto (off := 15) (by decide +kernel) (by decide +kernel)
theorem s155_13 : T_as4 155 13 15 := w_as4 (by decide +kernel)
theorem s155_15 : T_ic 155 15 16 1 := w_ic1 (n := 1) (by decide +kernel) rfl
theorem s155_16 : T_ir 155 16 := w_ir (by decide +kernel) (by decide +kernel)
theorem s155_17 : T_as4 155 17 19 := w_as4 (by decide +kernel)
theorem s155_19 : T_ic 155 19 20 2 := w_ic1 (n := 2) (by decide +kernel) rfl
theorem s155_20 : T_ir 155 20 := w_ir (by decide +kernel) (by decide +kernel)
theorem s155_21 : T_as4 155 21 23 := w_as4 (by decide +kernel)
theorem s155_23 : T_ic 155 23 24 3 := w_ic1 (n := 3) (by decide +kernel) rfl
theorem s155_24 : T_ir 155 24 := w_ir (by decide +kernel) (by decide +kernel)
theorem s155_25 : T_ic 155 25 26 0 := w_ic1 (n := 0) (by decide +kernel) rfl
theorem s155_26 : T_ir 155 26 := w_ir (by decide +kernel) (by decide +kernel)
theorem C155 {xs : az_X} {d : Nat} {b0 : Value} {b1 : Value} {b2 : Value} {b3 : Value} {G : az_G} {K : az_O → Prop} : az_C xs (d + 1) 155 [b0, b1, b2, b3] G K ↔ az_W xs d 155 0 [some b0, some b1, some b2, some b3, none] [] G K := Iff.rfl
theorem th155_1 {xs : az_X} {d : Nat} {L : az_Ls} {v : Option Value} {G : az_G} {K : az_O → Prop} : az_thn xs d 155 5 L K (1, v, G) ↔ az_W xs d 155 15 (L.set 4 none) [] G K := az_thn_h (by decide +kernel)
theorem th155_2 {xs : az_X} {d : Nat} {L : az_Ls} {v : Option Value} {G : az_G} {K : az_O → Prop} : az_thn xs d 155 5 L K (2, v, G) ↔ az_W xs d 155 19 (L.set 4 none) [] G K := az_thn_h (by decide +kernel)
theorem th155_3 {xs : az_X} {d : Nat} {L : az_Ls} {v : Option Value} {G : az_G} {K : az_O → Prop} : az_thn xs d 155 5 L K (3, v, G) ↔ az_W xs d 155 23 (L.set 4 none) [] G K := az_thn_h (by decide +kernel)
theorem s156_0 : T_al3 156 0 1 := w_aln3 (by decide +kernel)
theorem s156_1 : T_ic 156 1 2 0 := w_ic1 (n := 0) (by decide +kernel) rfl
theorem s156_2 : T_al0 156 2 3 := w_aln0 (by decide +kernel)
theorem s156_3 : T_il1 156 3 4 := w_iln1 (by decide +kernel)
theorem s156_4 : T_il2 156 4 5 := w_iln2 (by decide +kernel)
theorem s156_5 : T_ca3 156 5 8 53 := w_ca3 (x := 58) (i := .invokevirtual 58) (by decide +kernel) (by decide +kernel) (Or.inl ⟨rfl, by decide +kernel⟩)
theorem s156_8 : T_i2l 156 8 9 := w_i2l (by decide +kernel)
theorem s156_9 : T_last 156 9 10 := w_last (by decide +kernel)
theorem s156_10 : T_goto 156 10 25 := w_goto (off := 15) (by decide +kernel) (by decide +kernel)
theorem s156_13 : T_as4 156 13 15 := w_as4 (by decide +kernel)
theorem s156_15 : T_ic 156 15 16 1 := w_ic1 (n := 1) (by decide +kernel) rfl
theorem s156_16 : T_ir 156 16 := w_ir (by decide +kernel) (by decide +kernel)
theorem s156_17 : T_as4 156 17 19 := w_as4 (by decide +kernel)
theorem s156_19 : T_ic 156 19 20 2 := w_ic1 (n := 2) (by decide +kernel) rfl
theorem s156_20 : T_ir 156 20 := w_ir (by decide +kernel) (by decide +kernel)
theorem s156_21 : T_as4 156 21 23 := w_as4 (by decide +kernel)
theorem s156_23 : T_ic 156 23 24 3 := w_ic1 (n := 3) (by decide +kernel) rfl
theorem s156_24 : T_ir 156 24 := w_ir (by decide +kernel) (by decide +kernel)
theorem s156_25 : T_ic 156 25 26 0 := w_ic1 (n := 0) (by decide +kernel) rfl
theorem s156_26 : T_ir 156 26 := w_ir (by decide +kernel) (by decide +kernel)
theorem C156 {xs : az_X} {d : Nat} {b0 : Value} {b1 : Value} {b2 : Value} {b3 : Value} {G : az_G} {K : az_O → Prop} : az_C xs (d + 1) 156 [b0, b1, b2, b3] G K ↔ az_W xs d 156 0 [some b0, some b1, some b2, some b3, none] [] G K := Iff.rfl
theorem th156_1 {xs : az_X} {d : Nat} {L : az_Ls} {v : Option Value} {G : az_G} {K : az_O → Prop} : az_thn xs d 156 5 L K (1, v, G) ↔ az_W xs d 156 15 (L.set 4 none) [] G K := az_thn_h (by decide +kernel)
theorem th156_2 {xs : az_X} {d : Nat} {L : az_Ls} {v : Option Value} {G : az_G} {K : az_O → Prop} : az_thn xs d 156 5 L K (2, v, G) ↔ az_W xs d 156 19 (L.set 4 none) [] G K := az_thn_h (by decide +kernel)
theorem th156_3 {xs : az_X} {d : Nat} {L : az_Ls} {v : Option Value} {G : az_G} {K : az_O → Prop} : az_thn xs d 156 5 L K (3, v, G) ↔ az_W xs d 156 23 (L.set 4 none) [] G K := az_thn_h (by decide +kernel)
theorem s157_0 : T_al3 157 0 1 := w_aln3 (by decide +kernel)
theorem s157_1 : T_ic 157 1 2 0 := w_ic1 (n := 0) (by decide +kernel) rfl
theorem s157_2 : T_al0 157 2 3 := w_aln0 (by decide +kernel)
theorem s157_3 : T_il1 157 3 4 := w_iln1 (by decide +kernel)
theorem s157_4 : T_il2 157 4 5 := w_iln2 (by decide +kernel)
theorem s157_5 : T_ca3 157 5 8 54 := w_ca3 (x := 61) (i := .invokevirtual 61) (by decide +kernel) (by decide +kernel) (Or.inl ⟨rfl, by decide +kernel⟩)
theorem s157_8 : T_i2l 157 8 9 := w_i2l (by decide +kernel)
theorem s157_9 : T_last 157 9 10 := w_last (by decide +kernel)
theorem s157_10 : T_goto 157 10 25 := w_goto (off := 15) (by decide +kernel) (by decide +kernel)
theorem s157_13 : T_as4 157 13 15 := w_as4 (by decide +kernel)
theorem s157_15 : T_ic 157 15 16 1 := w_ic1 (n := 1) (by decide +kernel) rfl
theorem s157_16 : T_ir 157 16 := w_ir (by decide +kernel) (by decide +kernel)
theorem s157_17 : T_as4 157 17 19 := w_as4 (by decide +kernel)
theorem s157_19 : T_ic 157 19 20 2 := w_ic1 (n := 2) (by decide +kernel) rfl
theorem s157_20 : T_ir 157 20 := w_ir (by decide +kernel) (by decide +kernel)
theorem s157_21 : T_as4 157 21 23 := w_as4 (by decide +kernel)
theorem s157_23 : T_ic 157 23 24 3 := w_ic1 (n := 3) (by decide +kernel) rfl
theorem s157_24 : T_ir 157 24 := w_ir (by decide +kernel) (by decide +kernel)
theorem s157_25 : T_ic 157 25 26 0 := w_ic1 (n := 0) (by decide +kernel) rfl
theorem s157_26 : T_ir 157 26 := w_ir (by decide +kernel) (by decide +kernel)
theorem C157 {xs : az_X} {d : Nat} {b0 : Value} {b1 : Value} {b2 : Value} {b3 : Value} {G : az_G} {K : az_O → Prop} : az_C xs (d + 1) 157 [b0, b1, b2, b3] G K ↔ az_W xs d 157 0 [some b0, some b1, some b2, some b3, none] [] G K := Iff.rfl
theorem th157_1 {xs : az_X} {d : Nat} {L : az_Ls} {v : Option Value} {G : az_G} {K : az_O → Prop} : az_thn xs d 157 5 L K (1, v, G) ↔ az_W xs d 157 15 (L.set 4 none) [] G K := az_thn_h (by decide +kernel)
theorem th157_2 {xs : az_X} {d : Nat} {L : az_Ls} {v : Option Value} {G : az_G} {K : az_O → Prop} : az_thn xs d 157 5 L K (2, v, G) ↔ az_W xs d 157 19 (L.set 4 none) [] G K := az_thn_h (by decide +kernel)
theorem th157_3 {xs : az_X} {d : Nat} {L : az_Ls} {v : Option Value} {G : az_G} {K : az_O → Prop} : az_thn xs d 157 5 L K (3, v, G) ↔ az_W xs d 157 23 (L.set 4 none) [] G K := az_thn_h (by decide +kernel)
theorem s158_0 : T_al3 158 0 1 := w_aln3 (by decide +kernel)
theorem s158_1 : T_ic 158 1 2 0 := w_ic1 (n := 0) (by decide +kernel) rfl
theorem s158_2 : T_al0 158 2 3 := w_aln0 (by decide +kernel)
theorem s158_3 : T_il1 158 3 4 := w_iln1 (by decide +kernel)
theorem s158_4 : T_il2 158 4 5 := w_iln2 (by decide +kernel)
theorem s158_5 : T_ca3 158 5 8 55 := w_ca3 (x := 64) (i := .invokevirtual 64) (by decide +kernel) (by decide +kernel) (Or.inl ⟨rfl, by decide +kernel⟩)
theorem s158_8 : T_if_eq 158 8 11 15 := w_if_eq (off := 7) (by decide +kernel) (by decide +kernel)
theorem s158_11 : T_lc 158 11 12 1 := w_lc (n := 1) (by decide +kernel) rfl
theorem s158_12 : T_goto 158 12 16 := w_goto (off := 4) (by decide +kernel) (by decide +kernel)
theorem s158_15 : T_lc 158 15 16 0 := w_lc (n := 0) (by decide +kernel) rfl
theorem s158_16 : T_last 158 16 17 := w_last (by decide +kernel)
theorem s158_17 : T_goto 158 17 32 := w_goto (off := 15) (by decide +kernel) (by decide +kernel)
theorem s158_20 : T_as4 158 20 22 := w_as4 (by decide +kernel)
theorem s158_22 : T_ic 158 22 23 1 := w_ic1 (n := 1) (by decide +kernel) rfl
theorem s158_23 : T_ir 158 23 := w_ir (by decide +kernel) (by decide +kernel)
theorem s158_24 : T_as4 158 24 26 := w_as4 (by decide +kernel)
theorem s158_26 : T_ic 158 26 27 2 := w_ic1 (n := 2) (by decide +kernel) rfl
theorem s158_27 : T_ir 158 27 := w_ir (by decide +kernel) (by decide +kernel)
theorem s158_28 : T_as4 158 28 30 := w_as4 (by decide +kernel)
theorem s158_30 : T_ic 158 30 31 3 := w_ic1 (n := 3) (by decide +kernel) rfl
theorem s158_31 : T_ir 158 31 := w_ir (by decide +kernel) (by decide +kernel)
theorem s158_32 : T_ic 158 32 33 0 := w_ic1 (n := 0) (by decide +kernel) rfl
theorem s158_33 : T_ir 158 33 := w_ir (by decide +kernel) (by decide +kernel)
theorem C158 {xs : az_X} {d : Nat} {b0 : Value} {b1 : Value} {b2 : Value} {b3 : Value} {G : az_G} {K : az_O → Prop} : az_C xs (d + 1) 158 [b0, b1, b2, b3] G K ↔ az_W xs d 158 0 [some b0, some b1, some b2, some b3, none] [] G K := Iff.rfl
theorem th158_1 {xs : az_X} {d : Nat} {L : az_Ls} {v : Option Value} {G : az_G} {K : az_O → Prop} : az_thn xs d 158 5 L K (1, v, G) ↔ az_W xs d 158 22 (L.set 4 none) [] G K := az_thn_h (by decide +kernel)
theorem th158_2 {xs : az_X} {d : Nat} {L : az_Ls} {v : Option Value} {G : az_G} {K : az_O → Prop} : az_thn xs d 158 5 L K (2, v, G) ↔ az_W xs d 158 26 (L.set 4 none) [] G K := az_thn_h (by decide +kernel)
theorem th158_3 {xs : az_X} {d : Nat} {L : az_Ls} {v : Option Value} {G : az_G} {K : az_O → Prop} : az_thn xs d 158 5 L K (3, v, G) ↔ az_W xs d 158 30 (L.set 4 none) [] G K := az_thn_h (by decide +kernel)
theorem s159_0 : T_al2 159 0 1 := w_aln2 (by decide +kernel)
theorem s159_1 : T_ic 159 1 2 0 := w_ic1 (n := 0) (by decide +kernel) rfl
theorem s159_2 : T_al0 159 2 3 := w_aln0 (by decide +kernel)
theorem s159_3 : T_il1 159 3 4 := w_iln1 (by decide +kernel)
theorem s159_4 : T_ca2 159 4 7 56 := w_ca2 (x := 68) (i := .invokevirtual 68) (by decide +kernel) (by decide +kernel) (Or.inl ⟨rfl, by decide +kernel⟩)
theorem s159_7 : T_if_eq 159 7 10 14 := w_if_eq (off := 7) (by decide +kernel) (by decide +kernel)
theorem s159_10 : T_lc 159 10 11 1 := w_lc (n := 1) (by decide +kernel) rfl
theorem s159_11 : T_goto 159 11 15 := w_goto (off := 4) (by decide +kernel) (by decide +kernel)
theorem s159_14 : T_lc 159 14 15 0 := w_lc (n := 0) (by decide +kernel) rfl
theorem s159_15 : T_last 159 15 16 := w_last (by decide +kernel)
theorem s159_16 : T_goto 159 16 22 := w_goto (off := 6) (by decide +kernel) (by decide +kernel)
theorem s159_19 : T_as3 159 19 20 := w_asn3 (by decide +kernel)
theorem s159_20 : T_ic 159 20 21 1 := w_ic1 (n := 1) (by decide +kernel) rfl
theorem s159_21 : T_ir 159 21 := w_ir (by decide +kernel) (by decide +kernel)
theorem s159_22 : T_ic 159 22 23 0 := w_ic1 (n := 0) (by decide +kernel) rfl
theorem s159_23 : T_ir 159 23 := w_ir (by decide +kernel) (by decide +kernel)
theorem C159 {xs : az_X} {d : Nat} {b0 : Value} {b1 : Value} {b2 : Value} {G : az_G} {K : az_O → Prop} : az_C xs (d + 1) 159 [b0, b1, b2] G K ↔ az_W xs d 159 0 [some b0, some b1, some b2, none] [] G K := Iff.rfl
theorem th159_1 {xs : az_X} {d : Nat} {L : az_Ls} {v : Option Value} {G : az_G} {K : az_O → Prop} : az_thn xs d 159 4 L K (1, v, G) ↔ az_W xs d 159 20 (L.set 3 none) [] G K := az_thn_h (by decide +kernel)
theorem s160_0 : T_al1 160 0 1 := w_aln1 (by decide +kernel)
theorem s160_1 : T_ic 160 1 2 0 := w_ic1 (n := 0) (by decide +kernel) rfl
theorem s160_2 : T_al0 160 2 3 := w_aln0 (by decide +kernel)
theorem s160_3 : T_ca1 160 3 6 57 := w_ca1 (x := 72) (i := .invokevirtual 72) (by decide +kernel) (by decide +kernel) (Or.inl ⟨rfl, by decide +kernel⟩)
theorem s160_6 : T_i2l 160 6 7 := w_i2l (by decide +kernel)
theorem s160_7 : T_last 160 7 8 := w_last (by decide +kernel)
theorem s160_8 : T_goto 160 8 14 := w_goto (off := 6) (by decide +kernel) (by decide +kernel)
theorem s160_11 : T_as2 160 11 12 := w_asn2 (by decide +kernel)
theorem s160_12 : T_ic 160 12 13 1 := w_ic1 (n := 1) (by decide +kernel) rfl
theorem s160_13 : T_ir 160 13 := w_ir (by decide +kernel) (by decide +kernel)
theorem s160_14 : T_ic 160 14 15 0 := w_ic1 (n := 0) (by decide +kernel) rfl
theorem s160_15 : T_ir 160 15 := w_ir (by decide +kernel) (by decide +kernel)
theorem C160 {xs : az_X} {d : Nat} {b0 : Value} {b1 : Value} {G : az_G} {K : az_O → Prop} : az_C xs (d + 1) 160 [b0, b1] G K ↔ az_W xs d 160 0 [some b0, some b1, none] [] G K := Iff.rfl
theorem th160_3 {xs : az_X} {d : Nat} {L : az_Ls} {v : Option Value} {G : az_G} {K : az_O → Prop} : az_thn xs d 160 3 L K (3, v, G) ↔ az_W xs d 160 12 (L.set 2 none) [] G K := az_thn_h (by decide +kernel)
theorem s161_0 : T_al3 161 0 1 := w_aln3 (by decide +kernel)
theorem s161_1 : T_ic 161 1 2 0 := w_ic1 (n := 0) (by decide +kernel) rfl
theorem s161_2 : T_al0 161 2 3 := w_aln0 (by decide +kernel)
theorem s161_3 : T_il1 161 3 4 := w_iln1 (by decide +kernel)
theorem s161_4 : T_il2 161 4 5 := w_iln2 (by decide +kernel)
theorem s161_5 : T_ca3 161 5 8 58 := w_ca3 (x := 76) (i := .invokevirtual 76) (by decide +kernel) (by decide +kernel) (Or.inl ⟨rfl, by decide +kernel⟩)
theorem s161_8 : T_i2l 161 8 9 := w_i2l (by decide +kernel)
theorem s161_9 : T_last 161 9 10 := w_last (by decide +kernel)
theorem s161_10 : T_goto 161 10 25 := w_goto (off := 15) (by decide +kernel) (by decide +kernel)
theorem s161_13 : T_as4 161 13 15 := w_as4 (by decide +kernel)
theorem s161_15 : T_ic 161 15 16 1 := w_ic1 (n := 1) (by decide +kernel) rfl
theorem s161_16 : T_ir 161 16 := w_ir (by decide +kernel) (by decide +kernel)
theorem s161_17 : T_as4 161 17 19 := w_as4 (by decide +kernel)
theorem s161_19 : T_ic 161 19 20 2 := w_ic1 (n := 2) (by decide +kernel) rfl
theorem s161_20 : T_ir 161 20 := w_ir (by decide +kernel) (by decide +kernel)
theorem s161_21 : T_as4 161 21 23 := w_as4 (by decide +kernel)
theorem s161_23 : T_ic 161 23 24 3 := w_ic1 (n := 3) (by decide +kernel) rfl
theorem s161_24 : T_ir 161 24 := w_ir (by decide +kernel) (by decide +kernel)
theorem s161_25 : T_ic 161 25 26 0 := w_ic1 (n := 0) (by decide +kernel) rfl
theorem s161_26 : T_ir 161 26 := w_ir (by decide +kernel) (by decide +kernel)
theorem C161 {xs : az_X} {d : Nat} {b0 : Value} {b1 : Value} {b2 : Value} {b3 : Value} {G : az_G} {K : az_O → Prop} : az_C xs (d + 1) 161 [b0, b1, b2, b3] G K ↔ az_W xs d 161 0 [some b0, some b1, some b2, some b3, none] [] G K := Iff.rfl
theorem th161_1 {xs : az_X} {d : Nat} {L : az_Ls} {v : Option Value} {G : az_G} {K : az_O → Prop} : az_thn xs d 161 5 L K (1, v, G) ↔ az_W xs d 161 15 (L.set 4 none) [] G K := az_thn_h (by decide +kernel)
theorem th161_2 {xs : az_X} {d : Nat} {L : az_Ls} {v : Option Value} {G : az_G} {K : az_O → Prop} : az_thn xs d 161 5 L K (2, v, G) ↔ az_W xs d 161 19 (L.set 4 none) [] G K := az_thn_h (by decide +kernel)
theorem th161_3 {xs : az_X} {d : Nat} {L : az_Ls} {v : Option Value} {G : az_G} {K : az_O → Prop} : az_thn xs d 161 5 L K (3, v, G) ↔ az_W xs d 161 23 (L.set 4 none) [] G K := az_thn_h (by decide +kernel)
theorem s162_0 : T_al3 162 0 1 := w_aln3 (by decide +kernel)
theorem s162_1 : T_ic 162 1 2 0 := w_ic1 (n := 0) (by decide +kernel) rfl
theorem s162_2 : T_al0 162 2 3 := w_aln0 (by decide +kernel)
theorem s162_3 : T_il1 162 3 4 := w_iln1 (by decide +kernel)
theorem s162_4 : T_il2 162 4 5 := w_iln2 (by decide +kernel)
theorem s162_5 : T_ca3 162 5 8 60 := w_ca3 (x := 79) (i := .invokevirtual 79) (by decide +kernel) (by decide +kernel) (Or.inl ⟨rfl, by decide +kernel⟩)
theorem s162_8 : T_i2l 162 8 9 := w_i2l (by decide +kernel)
theorem s162_9 : T_last 162 9 10 := w_last (by decide +kernel)
theorem s162_10 : T_goto 162 10 21 := w_goto (off := 11) (by decide +kernel) (by decide +kernel)
theorem s162_13 : T_as4 162 13 15 := w_as4 (by decide +kernel)
theorem s162_15 : T_ic 162 15 16 1 := w_ic1 (n := 1) (by decide +kernel) rfl
theorem s162_16 : T_ir 162 16 := w_ir (by decide +kernel) (by decide +kernel)
theorem s162_17 : T_as4 162 17 19 := w_as4 (by decide +kernel)
theorem s162_19 : T_ic 162 19 20 2 := w_ic1 (n := 2) (by decide +kernel) rfl
theorem s162_20 : T_ir 162 20 := w_ir (by decide +kernel) (by decide +kernel)
theorem s162_21 : T_ic 162 21 22 0 := w_ic1 (n := 0) (by decide +kernel) rfl
theorem s162_22 : T_ir 162 22 := w_ir (by decide +kernel) (by decide +kernel)
theorem C162 {xs : az_X} {d : Nat} {b0 : Value} {b1 : Value} {b2 : Value} {b3 : Value} {G : az_G} {K : az_O → Prop} : az_C xs (d + 1) 162 [b0, b1, b2, b3] G K ↔ az_W xs d 162 0 [some b0, some b1, some b2, some b3, none] [] G K := Iff.rfl
theorem th162_1 {xs : az_X} {d : Nat} {L : az_Ls} {v : Option Value} {G : az_G} {K : az_O → Prop} : az_thn xs d 162 5 L K (1, v, G) ↔ az_W xs d 162 15 (L.set 4 none) [] G K := az_thn_h (by decide +kernel)
theorem th162_2 {xs : az_X} {d : Nat} {L : az_Ls} {v : Option Value} {G : az_G} {K : az_O → Prop} : az_thn xs d 162 5 L K (2, v, G) ↔ az_W xs d 162 19 (L.set 4 none) [] G K := az_thn_h (by decide +kernel)
theorem s163_0 : T_al3 163 0 1 := w_aln3 (by decide +kernel)
theorem s163_1 : T_ic 163 1 2 0 := w_ic1 (n := 0) (by decide +kernel) rfl
theorem s163_2 : T_al0 163 2 3 := w_aln0 (by decide +kernel)
theorem s163_3 : T_il1 163 3 4 := w_iln1 (by decide +kernel)
theorem s163_4 : T_il2 163 4 5 := w_iln2 (by decide +kernel)
theorem s163_5 : T_ca3 163 5 8 61 := w_ca3 (x := 82) (i := .invokevirtual 82) (by decide +kernel) (by decide +kernel) (Or.inl ⟨rfl, by decide +kernel⟩)
theorem s163_8 : T_i2l 163 8 9 := w_i2l (by decide +kernel)
theorem s163_9 : T_last 163 9 10 := w_last (by decide +kernel)
theorem s163_10 : T_goto 163 10 21 := w_goto (off := 11) (by decide +kernel) (by decide +kernel)
theorem s163_13 : T_as4 163 13 15 := w_as4 (by decide +kernel)
theorem s163_15 : T_ic 163 15 16 1 := w_ic1 (n := 1) (by decide +kernel) rfl
theorem s163_16 : T_ir 163 16 := w_ir (by decide +kernel) (by decide +kernel)
theorem s163_17 : T_as4 163 17 19 := w_as4 (by decide +kernel)
theorem s163_19 : T_ic 163 19 20 2 := w_ic1 (n := 2) (by decide +kernel) rfl
theorem s163_20 : T_ir 163 20 := w_ir (by decide +kernel) (by decide +kernel)
theorem s163_21 : T_ic 163 21 22 0 := w_ic1 (n := 0) (by decide +kernel) rfl
theorem s163_22 : T_ir 163 22 := w_ir (by decide +kernel) (by decide +kernel)
theorem C163 {xs : az_X} {d : Nat} {b0 : Value} {b1 : Value} {b2 : Value} {b3 : Value} {G : az_G} {K : az_O → Prop} : az_C xs (d + 1) 163 [b0, b1, b2, b3] G K ↔ az_W xs d 163 0 [some b0, some b1, some b2, some b3, none] [] G K := Iff.rfl
theorem th163_1 {xs : az_X} {d : Nat} {L : az_Ls} {v : Option Value} {G : az_G} {K : az_O → Prop} : az_thn xs d 163 5 L K (1, v, G) ↔ az_W xs d 163 15 (L.set 4 none) [] G K := az_thn_h (by decide +kernel)
theorem th163_2 {xs : az_X} {d : Nat} {L : az_Ls} {v : Option Value} {G : az_G} {K : az_O → Prop} : az_thn xs d 163 5 L K (2, v, G) ↔ az_W xs d 163 19 (L.set 4 none) [] G K := az_thn_h (by decide +kernel)
theorem s164_0 : T_al3 164 0 1 := w_aln3 (by decide +kernel)
theorem s164_1 : T_ic 164 1 2 0 := w_ic1 (n := 0) (by decide +kernel) rfl
theorem s164_2 : T_al0 164 2 3 := w_aln0 (by decide +kernel)
theorem s164_3 : T_il1 164 3 4 := w_iln1 (by decide +kernel)
theorem s164_4 : T_il2 164 4 5 := w_iln2 (by decide +kernel)
theorem s164_5 : T_ca3 164 5 8 62 := w_ca3 (x := 85) (i := .invokevirtual 85) (by decide +kernel) (by decide +kernel) (Or.inl ⟨rfl, by decide +kernel⟩)
theorem s164_8 : T_i2l 164 8 9 := w_i2l (by decide +kernel)
theorem s164_9 : T_last 164 9 10 := w_last (by decide +kernel)
theorem s164_10 : T_goto 164 10 17 := w_goto (off := 7) (by decide +kernel) (by decide +kernel)
theorem s164_13 : T_as4 164 13 15 := w_as4 (by decide +kernel)
theorem s164_15 : T_ic 164 15 16 1 := w_ic1 (n := 1) (by decide +kernel) rfl
theorem s164_16 : T_ir 164 16 := w_ir (by decide +kernel) (by decide +kernel)
theorem s164_17 : T_ic 164 17 18 0 := w_ic1 (n := 0) (by decide +kernel) rfl
theorem s164_18 : T_ir 164 18 := w_ir (by decide +kernel) (by decide +kernel)
theorem C164 {xs : az_X} {d : Nat} {b0 : Value} {b1 : Value} {b2 : Value} {b3 : Value} {G : az_G} {K : az_O → Prop} : az_C xs (d + 1) 164 [b0, b1, b2, b3] G K ↔ az_W xs d 164 0 [some b0, some b1, some b2, some b3, none] [] G K := Iff.rfl
theorem th164_1 {xs : az_X} {d : Nat} {L : az_Ls} {v : Option Value} {G : az_G} {K : az_O → Prop} : az_thn xs d 164 5 L K (1, v, G) ↔ az_W xs d 164 15 (L.set 4 none) [] G K := az_thn_h (by decide +kernel)
theorem s165_0 : T_al3 165 0 1 := w_aln3 (by decide +kernel)
theorem s165_1 : T_ic 165 1 2 0 := w_ic1 (n := 0) (by decide +kernel) rfl
theorem s165_2 : T_al0 165 2 3 := w_aln0 (by decide +kernel)
theorem s165_3 : T_il1 165 3 4 := w_iln1 (by decide +kernel)
theorem s165_4 : T_il2 165 4 5 := w_iln2 (by decide +kernel)
theorem s165_5 : T_ca3 165 5 8 63 := w_ca3 (x := 88) (i := .invokevirtual 88) (by decide +kernel) (by decide +kernel) (Or.inl ⟨rfl, by decide +kernel⟩)
theorem s165_8 : T_i2l 165 8 9 := w_i2l (by decide +kernel)
theorem s165_9 : T_last 165 9 10 := w_last (by decide +kernel)
theorem s165_10 : T_goto 165 10 21 := w_goto (off := 11) (by decide +kernel) (by decide +kernel)
theorem s165_13 : T_as4 165 13 15 := w_as4 (by decide +kernel)
theorem s165_15 : T_ic 165 15 16 1 := w_ic1 (n := 1) (by decide +kernel) rfl
theorem s165_16 : T_ir 165 16 := w_ir (by decide +kernel) (by decide +kernel)
theorem s165_17 : T_as4 165 17 19 := w_as4 (by decide +kernel)
theorem s165_19 : T_ic 165 19 20 2 := w_ic1 (n := 2) (by decide +kernel) rfl
theorem s165_20 : T_ir 165 20 := w_ir (by decide +kernel) (by decide +kernel)
theorem s165_21 : T_ic 165 21 22 0 := w_ic1 (n := 0) (by decide +kernel) rfl
theorem s165_22 : T_ir 165 22 := w_ir (by decide +kernel) (by decide +kernel)
theorem C165 {xs : az_X} {d : Nat} {b0 : Value} {b1 : Value} {b2 : Value} {b3 : Value} {G : az_G} {K : az_O → Prop} : az_C xs (d + 1) 165 [b0, b1, b2, b3] G K ↔ az_W xs d 165 0 [some b0, some b1, some b2, some b3, none] [] G K := Iff.rfl
theorem th165_1 {xs : az_X} {d : Nat} {L : az_Ls} {v : Option Value} {G : az_G} {K : az_O → Prop} : az_thn xs d 165 5 L K (1, v, G) ↔ az_W xs d 165 15 (L.set 4 none) [] G K := az_thn_h (by decide +kernel)
theorem th165_2 {xs : az_X} {d : Nat} {L : az_Ls} {v : Option Value} {G : az_G} {K : az_O → Prop} : az_thn xs d 165 5 L K (2, v, G) ↔ az_W xs d 165 19 (L.set 4 none) [] G K := az_thn_h (by decide +kernel)
theorem s166_0 : T_al3 166 0 1 := w_aln3 (by decide +kernel)
theorem s166_1 : T_ic 166 1 2 0 := w_ic1 (n := 0) (by decide +kernel) rfl
theorem s166_2 : T_al0 166 2 3 := w_aln0 (by decide +kernel)
theorem s166_3 : T_il1 166 3 4 := w_iln1 (by decide +kernel)
theorem s166_4 : T_il2 166 4 5 := w_iln2 (by decide +kernel)
theorem s166_5 : T_ca3 166 5 8 64 := w_ca3 (x := 91) (i := .invokevirtual 91) (by decide +kernel) (by decide +kernel) (Or.inl ⟨rfl, by decide +kernel⟩)
theorem s166_8 : T_i2l 166 8 9 := w_i2l (by decide +kernel)
theorem s166_9 : T_last 166 9 10 := w_last (by decide +kernel)
theorem s166_10 : T_goto 166 10 17 := w_goto (off := 7) (by decide +kernel) (by decide +kernel)
theorem s166_13 : T_as4 166 13 15 := w_as4 (by decide +kernel)
theorem s166_15 : T_ic 166 15 16 1 := w_ic1 (n := 1) (by decide +kernel) rfl
theorem s166_16 : T_ir 166 16 := w_ir (by decide +kernel) (by decide +kernel)
theorem s166_17 : T_ic 166 17 18 0 := w_ic1 (n := 0) (by decide +kernel) rfl
theorem s166_18 : T_ir 166 18 := w_ir (by decide +kernel) (by decide +kernel)
theorem C166 {xs : az_X} {d : Nat} {b0 : Value} {b1 : Value} {b2 : Value} {b3 : Value} {G : az_G} {K : az_O → Prop} : az_C xs (d + 1) 166 [b0, b1, b2, b3] G K ↔ az_W xs d 166 0 [some b0, some b1, some b2, some b3, none] [] G K := Iff.rfl
theorem th166_1 {xs : az_X} {d : Nat} {L : az_Ls} {v : Option Value} {G : az_G} {K : az_O → Prop} : az_thn xs d 166 5 L K (1, v, G) ↔ az_W xs d 166 15 (L.set 4 none) [] G K := az_thn_h (by decide +kernel)
theorem s167_0 : T_al3 167 0 1 := w_aln3 (by decide +kernel)
theorem s167_1 : T_ic 167 1 2 0 := w_ic1 (n := 0) (by decide +kernel) rfl
theorem s167_2 : T_al0 167 2 3 := w_aln0 (by decide +kernel)
theorem s167_3 : T_il1 167 3 4 := w_iln1 (by decide +kernel)
theorem s167_4 : T_il2 167 4 5 := w_iln2 (by decide +kernel)
theorem s167_5 : T_ca3 167 5 8 65 := w_ca3 (x := 94) (i := .invokevirtual 94) (by decide +kernel) (by decide +kernel) (Or.inl ⟨rfl, by decide +kernel⟩)
theorem s167_8 : T_i2l 167 8 9 := w_i2l (by decide +kernel)
theorem s167_9 : T_last 167 9 10 := w_last (by decide +kernel)
theorem s167_10 : T_goto 167 10 21 := w_goto (off := 11) (by decide +kernel) (by decide +kernel)
theorem s167_13 : T_as4 167 13 15 := w_as4 (by decide +kernel)
theorem s167_15 : T_ic 167 15 16 1 := w_ic1 (n := 1) (by decide +kernel) rfl
theorem s167_16 : T_ir 167 16 := w_ir (by decide +kernel) (by decide +kernel)
theorem s167_17 : T_as4 167 17 19 := w_as4 (by decide +kernel)
theorem s167_19 : T_ic 167 19 20 2 := w_ic1 (n := 2) (by decide +kernel) rfl
theorem s167_20 : T_ir 167 20 := w_ir (by decide +kernel) (by decide +kernel)
theorem s167_21 : T_ic 167 21 22 0 := w_ic1 (n := 0) (by decide +kernel) rfl
theorem s167_22 : T_ir 167 22 := w_ir (by decide +kernel) (by decide +kernel)
theorem C167 {xs : az_X} {d : Nat} {b0 : Value} {b1 : Value} {b2 : Value} {b3 : Value} {G : az_G} {K : az_O → Prop} : az_C xs (d + 1) 167 [b0, b1, b2, b3] G K ↔ az_W xs d 167 0 [some b0, some b1, some b2, some b3, none] [] G K := Iff.rfl
theorem th167_1 {xs : az_X} {d : Nat} {L : az_Ls} {v : Option Value} {G : az_G} {K : az_O → Prop} : az_thn xs d 167 5 L K (1, v, G) ↔ az_W xs d 167 15 (L.set 4 none) [] G K := az_thn_h (by decide +kernel)
theorem th167_2 {xs : az_X} {d : Nat} {L : az_Ls} {v : Option Value} {G : az_G} {K : az_O → Prop} : az_thn xs d 167 5 L K (2, v, G) ↔ az_W xs d 167 19 (L.set 4 none) [] G K := az_thn_h (by decide +kernel)
theorem s168_0 : T_al3 168 0 1 := w_aln3 (by decide +kernel)
theorem s168_1 : T_ic 168 1 2 0 := w_ic1 (n := 0) (by decide +kernel) rfl
theorem s168_2 : T_al0 168 2 3 := w_aln0 (by decide +kernel)
theorem s168_3 : T_il1 168 3 4 := w_iln1 (by decide +kernel)
theorem s168_4 : T_il2 168 4 5 := w_iln2 (by decide +kernel)
theorem s168_5 : T_ca3 168 5 8 66 := w_ca3 (x := 97) (i := .invokevirtual 97) (by decide +kernel) (by decide +kernel) (Or.inl ⟨rfl, by decide +kernel⟩)
theorem s168_8 : T_i2l 168 8 9 := w_i2l (by decide +kernel)
theorem s168_9 : T_last 168 9 10 := w_last (by decide +kernel)
theorem s168_10 : T_goto 168 10 17 := w_goto (off := 7) (by decide +kernel) (by decide +kernel)
theorem s168_13 : T_as4 168 13 15 := w_as4 (by decide +kernel)
theorem s168_15 : T_ic 168 15 16 1 := w_ic1 (n := 1) (by decide +kernel) rfl
theorem s168_16 : T_ir 168 16 := w_ir (by decide +kernel) (by decide +kernel)
theorem s168_17 : T_ic 168 17 18 0 := w_ic1 (n := 0) (by decide +kernel) rfl
theorem s168_18 : T_ir 168 18 := w_ir (by decide +kernel) (by decide +kernel)
theorem C168 {xs : az_X} {d : Nat} {b0 : Value} {b1 : Value} {b2 : Value} {b3 : Value} {G : az_G} {K : az_O → Prop} : az_C xs (d + 1) 168 [b0, b1, b2, b3] G K ↔ az_W xs d 168 0 [some b0, some b1, some b2, some b3, none] [] G K := Iff.rfl
theorem th168_1 {xs : az_X} {d : Nat} {L : az_Ls} {v : Option Value} {G : az_G} {K : az_O → Prop} : az_thn xs d 168 5 L K (1, v, G) ↔ az_W xs d 168 15 (L.set 4 none) [] G K := az_thn_h (by decide +kernel)
theorem s169_0 : T_al2 169 0 1 := w_aln2 (by decide +kernel)
theorem s169_1 : T_ic 169 1 2 0 := w_ic1 (n := 0) (by decide +kernel) rfl
theorem s169_2 : T_al0 169 2 3 := w_aln0 (by decide +kernel)
theorem s169_3 : T_il1 169 3 4 := w_iln1 (by decide +kernel)
theorem s169_4 : T_ca2 169 4 7 67 := w_ca2 (x := 100) (i := .invokevirtual 100) (by decide +kernel) (by decide +kernel) (Or.inl ⟨rfl, by decide +kernel⟩)
theorem s169_7 : T_i2l 169 7 8 := w_i2l (by decide +kernel)
theorem s169_8 : T_last 169 8 9 := w_last (by decide +kernel)
theorem s169_9 : T_goto 169 9 15 := w_goto (off := 6) (by decide +kernel) (by decide +kernel)
theorem s169_12 : T_as3 169 12 13 := w_asn3 (by decide +kernel)
theorem s169_13 : T_ic 169 13 14 1 := w_ic1 (n := 1) (by decide +kernel) rfl
theorem s169_14 : T_ir 169 14 := w_ir (by decide +kernel) (by decide +kernel)
theorem s169_15 : T_ic 169 15 16 0 := w_ic1 (n := 0) (by decide +kernel) rfl
theorem s169_16 : T_ir 169 16 := w_ir (by decide +kernel) (by decide +kernel)
theorem C169 {xs : az_X} {d : Nat} {b0 : Value} {b1 : Value} {b2 : Value} {G : az_G} {K : az_O → Prop} : az_C xs (d + 1) 169 [b0, b1, b2] G K ↔ az_W xs d 169 0 [some b0, some b1, some b2, none] [] G K := Iff.rfl
theorem th169_1 {xs : az_X} {d : Nat} {L : az_Ls} {v : Option Value} {G : az_G} {K : az_O → Prop} : az_thn xs d 169 4 L K (1, v, G) ↔ az_W xs d 169 13 (L.set 3 none) [] G K := az_thn_h (by decide +kernel)
theorem s170_0 : T_al2 170 0 1 := w_aln2 (by decide +kernel)
theorem s170_1 : T_ic 170 1 2 0 := w_ic1 (n := 0) (by decide +kernel) rfl
theorem s170_2 : T_al0 170 2 3 := w_aln0 (by decide +kernel)
theorem s170_3 : T_il1 170 3 4 := w_iln1 (by decide +kernel)
theorem s170_4 : T_ca2 170 4 7 68 := w_ca2 (x := 103) (i := .invokevirtual 103) (by decide +kernel) (by decide +kernel) (Or.inl ⟨rfl, by decide +kernel⟩)
theorem s170_7 : T_i2l 170 7 8 := w_i2l (by decide +kernel)
theorem s170_8 : T_last 170 8 9 := w_last (by decide +kernel)
theorem s170_9 : T_goto 170 9 15 := w_goto (off := 6) (by decide +kernel) (by decide +kernel)
theorem s170_12 : T_as3 170 12 13 := w_asn3 (by decide +kernel)
theorem s170_13 : T_ic 170 13 14 1 := w_ic1 (n := 1) (by decide +kernel) rfl
theorem s170_14 : T_ir 170 14 := w_ir (by decide +kernel) (by decide +kernel)
theorem s170_15 : T_ic 170 15 16 0 := w_ic1 (n := 0) (by decide +kernel) rfl
theorem s170_16 : T_ir 170 16 := w_ir (by decide +kernel) (by decide +kernel)
theorem C170 {xs : az_X} {d : Nat} {b0 : Value} {b1 : Value} {b2 : Value} {G : az_G} {K : az_O → Prop} : az_C xs (d + 1) 170 [b0, b1, b2] G K ↔ az_W xs d 170 0 [some b0, some b1, some b2, none] [] G K := Iff.rfl
theorem th170_1 {xs : az_X} {d : Nat} {L : az_Ls} {v : Option Value} {G : az_G} {K : az_O → Prop} : az_thn xs d 170 4 L K (1, v, G) ↔ az_W xs d 170 13 (L.set 3 none) [] G K := az_thn_h (by decide +kernel)
