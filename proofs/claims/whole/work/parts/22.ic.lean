section MXI
variable {X : MXX} {d : Nat} {h : MXH} {Q : MXP} {v0 v1 v2 v3 v4 v5 v6 v7 v8 v9 v10 v11 v12 v13 v14 v15 v16 v17 v18 v19 w w0 w1 w2 w3 w4 w5 w6 w7 w8 : Value} {x y z i x0 x1 x2 x3 x4 x5 x6 : Int32} {j0 j1 j2 j3 jx jy : Int64} {a b a0 a1 a2 a3 a4 a5 a6 : Nat}

-- 122 X12_init
set_option maxRecDepth 20000 in
theorem i122_0 : ex_ X d 122 0 [.ref a] [] h Q = ex_ X d 122 1 [.ref a] [.ref a] h Q := ex_nx (show mx_at 122 0 = some (.aload_n 0, 1) by decide +kernel) rfl
set_option maxRecDepth 20000 in
theorem i122_1 : ex_ X (d + 1) 122 1 [v0] [.ref a] h Q = ex_ X (d + 1) 122 4 [v0] [] h Q := R_obj (show mx_at 122 1 = some (.invokespecial 1, 3) by decide +kernel) (mx_clk ow122 cc12_1) (Nat.le_of_ble_eq_true rfl)
set_option maxRecDepth 20000 in
theorem i122_4 : ex_ X d 122 4 [.ref a] [] h Q = ex_ X d 122 5 [.ref a] [.ref a] h Q := ex_nx (show mx_at 122 4 = some (.aload_n 0, 1) by decide +kernel) rfl
set_option maxRecDepth 20000 in
theorem i122_5 : ex_ X d 122 5 [v0] [w0] h Q = ex_ X d 122 8 [v0] [.int 280, w0] h Q := R_sipush (show mx_at 122 5 = some (.sipush 280, 3) by decide +kernel) (by decide)
set_option maxRecDepth 20000 in
theorem i122_8 (hn : 0 ≤ x ∧ x.toNatClampNeg ≤ 1000) : ex_ X d 122 8 [v0] [.int x, w0] h Q = ex_ X d 122 10 [v0] [.ref h.length, w0] (h ++ [.inl (0, x.toNatClampNeg, .inl (fun _ => 0))]) Q := R_newa (kd := 0) (w := 2) (i := .newarray .int) (show mx_at 122 8 = some (.newarray .int, 2) by decide +kernel) (fun _ => rfl) hn
set_option maxRecDepth 20000 in
theorem i122_10 : ex_ X d 122 10 [v0] [w, .ref a] h Q = (pk_ 122 h a 0 w [(12, 0)] = true ∧ ex_ X d 122 13 [v0] [] (pf_ h a 0 w) Q) := R_putf (show mx_at 122 10 = some (.putfield 7, 3) by decide +kernel) (mx_fdo ow122 fd120007)
set_option maxRecDepth 20000 in
theorem i122_13 : ex_ X d 122 13 [.ref a] [] h Q = ex_ X d 122 14 [.ref a] [.ref a] h Q := ex_nx (show mx_at 122 13 = some (.aload_n 0, 1) by decide +kernel) rfl
set_option maxRecDepth 20000 in
theorem i122_14 : ex_ X d 122 14 [v0] [w0] h Q = ex_ X d 122 17 [v0] [.int 280, w0] h Q := R_sipush (show mx_at 122 14 = some (.sipush 280, 3) by decide +kernel) (by decide)
set_option maxRecDepth 20000 in
theorem i122_17 (hn : 0 ≤ x ∧ x.toNatClampNeg ≤ 1000) : ex_ X d 122 17 [v0] [.int x, w0] h Q = ex_ X d 122 19 [v0] [.ref h.length, w0] (h ++ [.inl (0, x.toNatClampNeg, .inl (fun _ => 0))]) Q := R_newa (kd := 0) (w := 2) (i := .newarray .int) (show mx_at 122 17 = some (.newarray .int, 2) by decide +kernel) (fun _ => rfl) hn
set_option maxRecDepth 20000 in
theorem i122_19 : ex_ X d 122 19 [v0] [w, .ref a] h Q = (pk_ 122 h a 1 w [(12, 0)] = true ∧ ex_ X d 122 22 [v0] [] (pf_ h a 1 w) Q) := R_putf (show mx_at 122 19 = some (.putfield 13, 3) by decide +kernel) (mx_fdo ow122 fd120013)
set_option maxRecDepth 20000 in
theorem i122_22 : ex_ X d 122 22 [.ref a] [] h Q = ex_ X d 122 23 [.ref a] [.ref a] h Q := ex_nx (show mx_at 122 22 = some (.aload_n 0, 1) by decide +kernel) rfl
set_option maxRecDepth 20000 in
theorem i122_23 : ex_ X d 122 23 [v0] [w0] h Q = ex_ X d 122 26 [v0] [.int 280, w0] h Q := R_sipush (show mx_at 122 23 = some (.sipush 280, 3) by decide +kernel) (by decide)
set_option maxRecDepth 20000 in
theorem i122_26 (hn : 0 ≤ x ∧ x.toNatClampNeg ≤ 1000) : ex_ X d 122 26 [v0] [.int x, w0] h Q = ex_ X d 122 28 [v0] [.ref h.length, w0] (h ++ [.inl (0, x.toNatClampNeg, .inl (fun _ => 0))]) Q := R_newa (kd := 0) (w := 2) (i := .newarray .int) (show mx_at 122 26 = some (.newarray .int, 2) by decide +kernel) (fun _ => rfl) hn
set_option maxRecDepth 20000 in
theorem i122_28 : ex_ X d 122 28 [v0] [w, .ref a] h Q = (pk_ 122 h a 2 w [(12, 0)] = true ∧ ex_ X d 122 31 [v0] [] (pf_ h a 2 w) Q) := R_putf (show mx_at 122 28 = some (.putfield 16, 3) by decide +kernel) (mx_fdo ow122 fd120016)
set_option maxRecDepth 20000 in
theorem i122_31 : ex_ X d 122 31 [.ref a] [] h Q = ex_ X d 122 32 [.ref a] [.ref a] h Q := ex_nx (show mx_at 122 31 = some (.aload_n 0, 1) by decide +kernel) rfl
set_option maxRecDepth 20000 in
theorem i122_32 : ex_ X d 122 32 [v0] [w0] h Q = ex_ X d 122 34 [v0] [.int 6, w0] h Q := R_bipush (show mx_at 122 32 = some (.bipush 6, 2) by decide +kernel) (by decide)
set_option maxRecDepth 20000 in
theorem i122_34 (hn : 0 ≤ x ∧ x.toNatClampNeg ≤ 1000) : ex_ X d 122 34 [v0] [.int x, w0] h Q = ex_ X d 122 36 [v0] [.ref h.length, w0] (h ++ [.inl (0, x.toNatClampNeg, .inl (fun _ => 0))]) Q := R_newa (kd := 0) (w := 2) (i := .newarray .int) (show mx_at 122 34 = some (.newarray .int, 2) by decide +kernel) (fun _ => rfl) hn
set_option maxRecDepth 20000 in
theorem i122_36 : ex_ X d 122 36 [v0] [w, .ref a] h Q = (pk_ 122 h a 4 w [(12, 0)] = true ∧ ex_ X d 122 39 [v0] [] (pf_ h a 4 w) Q) := R_putf (show mx_at 122 36 = some (.putfield 19, 3) by decide +kernel) (mx_fdo ow122 fd120019)
set_option maxRecDepth 20000 in
theorem i122_39 : ex_ X d 122 39 [.ref a] [] h Q = ex_ X d 122 40 [.ref a] [.ref a] h Q := ex_nx (show mx_at 122 39 = some (.aload_n 0, 1) by decide +kernel) rfl
set_option maxRecDepth 20000 in
theorem i122_40 : ex_ X d 122 40 [v0] [w0] h Q = ex_ X d 122 41 [v0] [.int 4, w0] h Q := R_iconst (show mx_at 122 40 = some (.iconst 4, 1) by decide +kernel) (by decide)
set_option maxRecDepth 20000 in
theorem i122_41 (hn : 0 ≤ x ∧ x.toNatClampNeg ≤ 1000) : ex_ X d 122 41 [v0] [.int x, w0] h Q = ex_ X d 122 43 [v0] [.ref h.length, w0] (h ++ [.inl (0, x.toNatClampNeg, .inl (fun _ => 0))]) Q := R_newa (kd := 0) (w := 2) (i := .newarray .int) (show mx_at 122 41 = some (.newarray .int, 2) by decide +kernel) (fun _ => rfl) hn
set_option maxRecDepth 20000 in
theorem i122_43 : ex_ X d 122 43 [v0] [w, .ref a] h Q = (pk_ 122 h a 11 w [(12, 0)] = true ∧ ex_ X d 122 46 [v0] [] (pf_ h a 11 w) Q) := R_putf (show mx_at 122 43 = some (.putfield 22, 3) by decide +kernel) (mx_fdo ow122 fd120022)
set_option maxRecDepth 20000 in
theorem i122_46 : ex_ X d 122 46 [.ref a] [] h Q = ex_ X d 122 47 [.ref a] [.ref a] h Q := ex_nx (show mx_at 122 46 = some (.aload_n 0, 1) by decide +kernel) rfl
set_option maxRecDepth 20000 in
theorem i122_47 : ex_ X d 122 47 [v0] [w0] h Q = ex_ X d 122 49 [v0] [.int 60, w0] h Q := R_bipush (show mx_at 122 47 = some (.bipush 60, 2) by decide +kernel) (by decide)
set_option maxRecDepth 20000 in
theorem i122_49 (hn : 0 ≤ x ∧ x.toNatClampNeg ≤ 1000) : ex_ X d 122 49 [v0] [.int x, w0] h Q = ex_ X d 122 51 [v0] [.ref h.length, w0] (h ++ [.inl (0, x.toNatClampNeg, .inl (fun _ => 0))]) Q := R_newa (kd := 0) (w := 2) (i := .newarray .int) (show mx_at 122 49 = some (.newarray .int, 2) by decide +kernel) (fun _ => rfl) hn
set_option maxRecDepth 20000 in
theorem i122_51 : ex_ X d 122 51 [v0] [w, .ref a] h Q = (pk_ 122 h a 12 w [(12, 0)] = true ∧ ex_ X d 122 54 [v0] [] (pf_ h a 12 w) Q) := R_putf (show mx_at 122 51 = some (.putfield 25, 3) by decide +kernel) (mx_fdo ow122 fd120025)
set_option maxRecDepth 20000 in
theorem i122_54 : ex_ X d 122 54 [.ref a] [] h Q = ex_ X d 122 55 [.ref a] [.ref a] h Q := ex_nx (show mx_at 122 54 = some (.aload_n 0, 1) by decide +kernel) rfl
set_option maxRecDepth 20000 in
theorem i122_55 : ex_ X d 122 55 [v0] [w0] h Q = ex_ X d 122 57 [v0] [.int 60, w0] h Q := R_bipush (show mx_at 122 55 = some (.bipush 60, 2) by decide +kernel) (by decide)
set_option maxRecDepth 20000 in
theorem i122_57 (hn : 0 ≤ x ∧ x.toNatClampNeg ≤ 1000) : ex_ X d 122 57 [v0] [.int x, w0] h Q = ex_ X d 122 59 [v0] [.ref h.length, w0] (h ++ [.inl (0, x.toNatClampNeg, .inl (fun _ => 0))]) Q := R_newa (kd := 0) (w := 2) (i := .newarray .int) (show mx_at 122 57 = some (.newarray .int, 2) by decide +kernel) (fun _ => rfl) hn
set_option maxRecDepth 20000 in
theorem i122_59 : ex_ X d 122 59 [v0] [w, .ref a] h Q = (pk_ 122 h a 14 w [(12, 0)] = true ∧ ex_ X d 122 62 [v0] [] (pf_ h a 14 w) Q) := R_putf (show mx_at 122 59 = some (.putfield 28, 3) by decide +kernel) (mx_fdo ow122 fd120028)
set_option maxRecDepth 20000 in
theorem i122_62 : ex_ X d 122 62 [.ref a] [] h Q = ex_ X d 122 63 [.ref a] [.ref a] h Q := ex_nx (show mx_at 122 62 = some (.aload_n 0, 1) by decide +kernel) rfl
set_option maxRecDepth 20000 in
theorem i122_63 : ex_ X d 122 63 [v0] [w0] h Q = ex_ X d 122 65 [v0] [.int 6, w0] h Q := R_bipush (show mx_at 122 63 = some (.bipush 6, 2) by decide +kernel) (by decide)
set_option maxRecDepth 20000 in
theorem i122_65 (hn : 0 ≤ x ∧ x.toNatClampNeg ≤ 1000) : ex_ X d 122 65 [v0] [.int x, w0] h Q = ex_ X d 122 67 [v0] [.ref h.length, w0] (h ++ [.inl (1, x.toNatClampNeg, .inl (fun _ => 0))]) Q := R_newa (kd := 1) (w := 2) (i := .newarray .boolean) (show mx_at 122 65 = some (.newarray .boolean, 2) by decide +kernel) (fun _ => rfl) hn
set_option maxRecDepth 20000 in
theorem i122_67 : ex_ X d 122 67 [v0] [w, .ref a] h Q = (pk_ 122 h a 15 w [(12, 0)] = true ∧ ex_ X d 122 70 [v0] [] (pf_ h a 15 w) Q) := R_putf (show mx_at 122 67 = some (.putfield 31, 3) by decide +kernel) (mx_fdo ow122 fd120031)
set_option maxRecDepth 20000 in
theorem i122_70 : ex_ X d 122 70 [.ref a] [] h Q = ex_ X d 122 71 [.ref a] [.ref a] h Q := ex_nx (show mx_at 122 70 = some (.aload_n 0, 1) by decide +kernel) rfl
set_option maxRecDepth 20000 in
theorem i122_71 : ex_ X d 122 71 [v0] [w0] h Q = ex_ X d 122 73 [v0] [.int 6, w0] h Q := R_bipush (show mx_at 122 71 = some (.bipush 6, 2) by decide +kernel) (by decide)
set_option maxRecDepth 20000 in
theorem i122_73 (hn : 0 ≤ x ∧ x.toNatClampNeg ≤ 1000) : ex_ X d 122 73 [v0] [.int x, w0] h Q = ex_ X d 122 75 [v0] [.ref h.length, w0] (h ++ [.inl (0, x.toNatClampNeg, .inl (fun _ => 0))]) Q := R_newa (kd := 0) (w := 2) (i := .newarray .int) (show mx_at 122 73 = some (.newarray .int, 2) by decide +kernel) (fun _ => rfl) hn
set_option maxRecDepth 20000 in
theorem i122_75 : ex_ X d 122 75 [v0] [w, .ref a] h Q = (pk_ 122 h a 16 w [(12, 0)] = true ∧ ex_ X d 122 78 [v0] [] (pf_ h a 16 w) Q) := R_putf (show mx_at 122 75 = some (.putfield 35, 3) by decide +kernel) (mx_fdo ow122 fd120035)
set_option maxRecDepth 20000 in
theorem i122_78 : ex_ X d 122 78 [.ref a] [] h Q = ex_ X d 122 79 [.ref a] [.ref a] h Q := ex_nx (show mx_at 122 78 = some (.aload_n 0, 1) by decide +kernel) rfl
set_option maxRecDepth 20000 in
theorem i122_79 : ex_ X d 122 79 [v0] [w0] h Q = ex_ X d 122 81 [v0] [.int 40, w0] h Q := R_bipush (show mx_at 122 79 = some (.bipush 40, 2) by decide +kernel) (by decide)
set_option maxRecDepth 20000 in
theorem i122_81 (hn : 0 ≤ x ∧ x.toNatClampNeg ≤ 1000) : ex_ X d 122 81 [v0] [.int x, w0] h Q = ex_ X d 122 83 [v0] [.ref h.length, w0] (h ++ [.inl (0, x.toNatClampNeg, .inl (fun _ => 0))]) Q := R_newa (kd := 0) (w := 2) (i := .newarray .int) (show mx_at 122 81 = some (.newarray .int, 2) by decide +kernel) (fun _ => rfl) hn
set_option maxRecDepth 20000 in
theorem i122_83 : ex_ X d 122 83 [v0] [w, .ref a] h Q = (pk_ 122 h a 17 w [(12, 0)] = true ∧ ex_ X d 122 86 [v0] [] (pf_ h a 17 w) Q) := R_putf (show mx_at 122 83 = some (.putfield 38, 3) by decide +kernel) (mx_fdo ow122 fd120038)
set_option maxRecDepth 20000 in
theorem i122_86 : ex_ X d 122 86 [.ref a] [] h Q = ex_ X d 122 87 [.ref a] [.ref a] h Q := ex_nx (show mx_at 122 86 = some (.aload_n 0, 1) by decide +kernel) rfl
set_option maxRecDepth 20000 in
theorem i122_87 : ex_ X d 122 87 [v0] [w0] h Q = ex_ X d 122 88 [v0] [.int 4, w0] h Q := R_iconst (show mx_at 122 87 = some (.iconst 4, 1) by decide +kernel) (by decide)
set_option maxRecDepth 20000 in
theorem i122_88 (hn : 0 ≤ x ∧ x.toNatClampNeg ≤ 1000) : ex_ X d 122 88 [v0] [.int x, w0] h Q = ex_ X d 122 90 [v0] [.ref h.length, w0] (h ++ [.inl (0, x.toNatClampNeg, .inl (fun _ => 0))]) Q := R_newa (kd := 0) (w := 2) (i := .newarray .int) (show mx_at 122 88 = some (.newarray .int, 2) by decide +kernel) (fun _ => rfl) hn
set_option maxRecDepth 20000 in
theorem i122_90 : ex_ X d 122 90 [v0] [w, .ref a] h Q = (pk_ 122 h a 20 w [(12, 0)] = true ∧ ex_ X d 122 93 [v0] [] (pf_ h a 20 w) Q) := R_putf (show mx_at 122 90 = some (.putfield 41, 3) by decide +kernel) (mx_fdo ow122 fd120041)
set_option maxRecDepth 20000 in
theorem i122_93 : ex_ X d 122 93 [.ref a] [] h Q = ex_ X d 122 94 [.ref a] [.ref a] h Q := ex_nx (show mx_at 122 93 = some (.aload_n 0, 1) by decide +kernel) rfl
set_option maxRecDepth 20000 in
theorem i122_94 : ex_ X d 122 94 [v0] [w0] h Q = ex_ X d 122 95 [v0] [.int 4, w0] h Q := R_iconst (show mx_at 122 94 = some (.iconst 4, 1) by decide +kernel) (by decide)
set_option maxRecDepth 20000 in
theorem i122_95 (hn : 0 ≤ x ∧ x.toNatClampNeg ≤ 1000) : ex_ X d 122 95 [v0] [.int x, w0] h Q = ex_ X d 122 97 [v0] [.ref h.length, w0] (h ++ [.inl (0, x.toNatClampNeg, .inl (fun _ => 0))]) Q := R_newa (kd := 0) (w := 2) (i := .newarray .int) (show mx_at 122 95 = some (.newarray .int, 2) by decide +kernel) (fun _ => rfl) hn
set_option maxRecDepth 20000 in
theorem i122_97 : ex_ X d 122 97 [v0] [w, .ref a] h Q = (pk_ 122 h a 21 w [(12, 0)] = true ∧ ex_ X d 122 100 [v0] [] (pf_ h a 21 w) Q) := R_putf (show mx_at 122 97 = some (.putfield 44, 3) by decide +kernel) (mx_fdo ow122 fd120044)
set_option maxRecDepth 20000 in
theorem i122_100 : ex_ X d 122 100 [.ref a] [] h Q = ex_ X d 122 101 [.ref a] [.ref a] h Q := ex_nx (show mx_at 122 100 = some (.aload_n 0, 1) by decide +kernel) rfl
set_option maxRecDepth 20000 in
theorem i122_101 : ex_ X d 122 101 [v0] [w0] h Q = ex_ X d 122 104 [v0] [.int 160, w0] h Q := R_sipush (show mx_at 122 101 = some (.sipush 160, 3) by decide +kernel) (by decide)
set_option maxRecDepth 20000 in
theorem i122_104 (hn : 0 ≤ x ∧ x.toNatClampNeg ≤ 1000) : ex_ X d 122 104 [v0] [.int x, w0] h Q = ex_ X d 122 106 [v0] [.ref h.length, w0] (h ++ [.inl (0, x.toNatClampNeg, .inl (fun _ => 0))]) Q := R_newa (kd := 0) (w := 2) (i := .newarray .int) (show mx_at 122 104 = some (.newarray .int, 2) by decide +kernel) (fun _ => rfl) hn
set_option maxRecDepth 20000 in
theorem i122_106 : ex_ X d 122 106 [v0] [w, .ref a] h Q = (pk_ 122 h a 22 w [(12, 0)] = true ∧ ex_ X d 122 109 [v0] [] (pf_ h a 22 w) Q) := R_putf (show mx_at 122 106 = some (.putfield 47, 3) by decide +kernel) (mx_fdo ow122 fd120047)
set_option maxRecDepth 20000 in
theorem i122_109 : ex_ X d 122 109 [.ref a] [] h Q = ex_ X d 122 110 [.ref a] [.ref a] h Q := ex_nx (show mx_at 122 109 = some (.aload_n 0, 1) by decide +kernel) rfl
set_option maxRecDepth 20000 in
theorem i122_110 : ex_ X d 122 110 [v0] [w0] h Q = ex_ X d 122 112 [v0] [.int 40, w0] h Q := R_bipush (show mx_at 122 110 = some (.bipush 40, 2) by decide +kernel) (by decide)
set_option maxRecDepth 20000 in
theorem i122_112 (hn : 0 ≤ x ∧ x.toNatClampNeg ≤ 1000) : ex_ X d 122 112 [v0] [.int x, w0] h Q = ex_ X d 122 114 [v0] [.ref h.length, w0] (h ++ [.inl (0, x.toNatClampNeg, .inl (fun _ => 0))]) Q := R_newa (kd := 0) (w := 2) (i := .newarray .int) (show mx_at 122 112 = some (.newarray .int, 2) by decide +kernel) (fun _ => rfl) hn
set_option maxRecDepth 20000 in
theorem i122_114 : ex_ X d 122 114 [v0] [w, .ref a] h Q = (pk_ 122 h a 23 w [(12, 0)] = true ∧ ex_ X d 122 117 [v0] [] (pf_ h a 23 w) Q) := R_putf (show mx_at 122 114 = some (.putfield 50, 3) by decide +kernel) (mx_fdo ow122 fd120050)
set_option maxRecDepth 20000 in
theorem i122_117 : ex_ X d 122 117 [.ref a] [] h Q = ex_ X d 122 118 [.ref a] [.ref a] h Q := ex_nx (show mx_at 122 117 = some (.aload_n 0, 1) by decide +kernel) rfl
set_option maxRecDepth 20000 in
theorem i122_118 : ex_ X d 122 118 [v0] [.ref a] h Q = (gk_ h a 0 [(12, 0)] = true ∧ ex_ X d 122 121 [v0] [gv_ h a 0] h Q) := R_getf (show mx_at 122 118 = some (.getfield 7, 3) by decide +kernel) (mx_fdo ow122 fd120007)
set_option maxRecDepth 20000 in
theorem i122_121 : ex_ X d 122 121 [v0] [w0] h Q = ex_ X d 122 122 [v0] [.int 4, w0] h Q := R_iconst (show mx_at 122 121 = some (.iconst 4, 1) by decide +kernel) (by decide)
set_option maxRecDepth 20000 in
theorem i122_122 : ex_ X d 122 122 [v0] [w0, w1] h Q = ex_ X d 122 124 [v0] [.int 10, w0, w1] h Q := R_bipush (show mx_at 122 122 = some (.bipush 10, 2) by decide +kernel) (by decide)
set_option maxRecDepth 20000 in
theorem i122_124 : ex_ X d 122 124 [v0] [.int x, .int i, .ref a] h Q = (ik_ h a i = true ∧ ex_ X d 122 125 [v0] [] (is_ h a i x) Q) := R_iast (show mx_at 122 124 = some (.iastore, 1) by decide +kernel)
set_option maxRecDepth 20000 in
theorem i122_125 : ex_ X d 122 125 [.ref a] [] h Q = ex_ X d 122 126 [.ref a] [.ref a] h Q := ex_nx (show mx_at 122 125 = some (.aload_n 0, 1) by decide +kernel) rfl
set_option maxRecDepth 20000 in
theorem i122_126 : ex_ X d 122 126 [v0] [.ref a] h Q = (gk_ h a 0 [(12, 0)] = true ∧ ex_ X d 122 129 [v0] [gv_ h a 0] h Q) := R_getf (show mx_at 122 126 = some (.getfield 7, 3) by decide +kernel) (mx_fdo ow122 fd120007)
set_option maxRecDepth 20000 in
theorem i122_129 : ex_ X d 122 129 [v0] [w0] h Q = ex_ X d 122 130 [v0] [.int 5, w0] h Q := R_iconst (show mx_at 122 129 = some (.iconst 5, 1) by decide +kernel) (by decide)
set_option maxRecDepth 20000 in
theorem i122_130 : ex_ X d 122 130 [v0] [w0, w1] h Q = ex_ X d 122 132 [v0] [.int 10, w0, w1] h Q := R_bipush (show mx_at 122 130 = some (.bipush 10, 2) by decide +kernel) (by decide)
set_option maxRecDepth 20000 in
theorem i122_132 : ex_ X d 122 132 [v0] [.int x, .int i, .ref a] h Q = (ik_ h a i = true ∧ ex_ X d 122 133 [v0] [] (is_ h a i x) Q) := R_iast (show mx_at 122 132 = some (.iastore, 1) by decide +kernel)
set_option maxRecDepth 20000 in
theorem i122_133 : ex_ X d 122 133 [.ref a] [] h Q = ex_ X d 122 134 [.ref a] [.ref a] h Q := ex_nx (show mx_at 122 133 = some (.aload_n 0, 1) by decide +kernel) rfl
set_option maxRecDepth 20000 in
theorem i122_134 : ex_ X d 122 134 [v0] [.ref a] h Q = (gk_ h a 0 [(12, 0)] = true ∧ ex_ X d 122 137 [v0] [gv_ h a 0] h Q) := R_getf (show mx_at 122 134 = some (.getfield 7, 3) by decide +kernel) (mx_fdo ow122 fd120007)
set_option maxRecDepth 20000 in
theorem i122_137 : ex_ X d 122 137 [v0] [w0] h Q = ex_ X d 122 139 [v0] [.int 6, w0] h Q := R_bipush (show mx_at 122 137 = some (.bipush 6, 2) by decide +kernel) (by decide)
set_option maxRecDepth 20000 in
theorem i122_139 : ex_ X d 122 139 [v0] [w0, w1] h Q = ex_ X d 122 141 [v0] [.int 10, w0, w1] h Q := R_bipush (show mx_at 122 139 = some (.bipush 10, 2) by decide +kernel) (by decide)
set_option maxRecDepth 20000 in
theorem i122_141 : ex_ X d 122 141 [v0] [.int x, .int i, .ref a] h Q = (ik_ h a i = true ∧ ex_ X d 122 142 [v0] [] (is_ h a i x) Q) := R_iast (show mx_at 122 141 = some (.iastore, 1) by decide +kernel)
set_option maxRecDepth 20000 in
theorem i122_142 : ex_ X d 122 142 [.ref a] [] h Q = ex_ X d 122 143 [.ref a] [.ref a] h Q := ex_nx (show mx_at 122 142 = some (.aload_n 0, 1) by decide +kernel) rfl
set_option maxRecDepth 20000 in
theorem i122_143 : ex_ X d 122 143 [v0] [.ref a] h Q = (gk_ h a 0 [(12, 0)] = true ∧ ex_ X d 122 146 [v0] [gv_ h a 0] h Q) := R_getf (show mx_at 122 143 = some (.getfield 7, 3) by decide +kernel) (mx_fdo ow122 fd120007)
set_option maxRecDepth 20000 in
theorem i122_146 : ex_ X d 122 146 [v0] [w0] h Q = ex_ X d 122 148 [v0] [.int 8, w0] h Q := R_bipush (show mx_at 122 146 = some (.bipush 8, 2) by decide +kernel) (by decide)
set_option maxRecDepth 20000 in
theorem i122_148 : ex_ X d 122 148 [v0] [w0, w1] h Q = ex_ X d 122 149 [v0] [.int 1, w0, w1] h Q := R_iconst (show mx_at 122 148 = some (.iconst 1, 1) by decide +kernel) (by decide)
set_option maxRecDepth 20000 in
theorem i122_149 : ex_ X d 122 149 [v0] [.int x, .int i, .ref a] h Q = (ik_ h a i = true ∧ ex_ X d 122 150 [v0] [] (is_ h a i x) Q) := R_iast (show mx_at 122 149 = some (.iastore, 1) by decide +kernel)
set_option maxRecDepth 20000 in
theorem i122_150 : ex_ X d 122 150 [v0] [] h Q = Q none h := ex_ret (show mx_at 122 150 = some (.return_, 1) by decide +kernel) (mx_retV rt122)
theorem i122_e : ev_ X d 122 [.ref a] h Q = ex_ X d 122 0 [.ref a] [] h Q := by rw [ev_, ml122]; rfl
-- 123 X12_finds
set_option maxRecDepth 20000 in
theorem i123_0 : ex_ X d 123 0 [.ref a, v1] [] h Q = ex_ X d 123 1 [.ref a, v1] [.ref a] h Q := ex_nx (show mx_at 123 0 = some (.aload_n 0, 1) by decide +kernel) rfl
set_option maxRecDepth 20000 in
theorem i123_1 : ex_ X d 123 1 [v0, v1] [.ref a] h Q = (gk_ h a 4 [(12, 0)] = true ∧ ex_ X d 123 4 [v0, v1] [gv_ h a 4] h Q) := R_getf (show mx_at 123 1 = some (.getfield 19, 3) by decide +kernel) (mx_fdo ow123 fd120019)
set_option maxRecDepth 20000 in
theorem i123_4 : ex_ X d 123 4 [v0, .int x] [w0] h Q = ex_ X d 123 5 [v0, .int x] [.int x, w0] h Q := ex_nx (show mx_at 123 4 = some (.iload_n 1, 1) by decide +kernel) rfl
set_option maxRecDepth 20000 in
theorem i123_5 : ex_ X d 123 5 [v0, v1] [.int x, .ref a] h Q = ex_ X d 123 6 [v0, v1] [.int x, .ref a, .int x, .ref a] h Q := ex_nx (show mx_at 123 5 = some (.dup2, 1) by decide +kernel) rfl
set_option maxRecDepth 20000 in
theorem i123_6 : ex_ X d 123 6 [v0, v1] [.int i, .ref a, w0, w1] h Q = (ik_ h a i = true ∧ ex_ X d 123 7 [v0, v1] [.int (ia_ h a i), w0, w1] h Q) := R_iald (show mx_at 123 6 = some (.iaload, 1) by decide +kernel)
set_option maxRecDepth 20000 in
theorem i123_7 : ex_ X d 123 7 [v0, v1] [w0, w1, w2] h Q = ex_ X d 123 8 [v0, v1] [.int 1, w0, w1, w2] h Q := R_iconst (show mx_at 123 7 = some (.iconst 1, 1) by decide +kernel) (by decide)
set_option maxRecDepth 20000 in
theorem i123_8 : ex_ X d 123 8 [v0, v1] [.int y, .int x, w0, w1] h Q = ex_ X d 123 9 [v0, v1] [.int (x + y), w0, w1] h Q := ex_nx (show mx_at 123 8 = some (.iadd, 1) by decide +kernel) rfl
set_option maxRecDepth 20000 in
theorem i123_9 : ex_ X d 123 9 [v0, v1] [.int x, .int i, .ref a] h Q = (ik_ h a i = true ∧ ex_ X d 123 10 [v0, v1] [] (is_ h a i x) Q) := R_iast (show mx_at 123 9 = some (.iastore, 1) by decide +kernel)
set_option maxRecDepth 20000 in
theorem i123_10 : ex_ X d 123 10 [v0, v1] [] h Q = ex_ X d 123 12 [v0, v1] [.int (-1000000000)] h Q := R_ldc (show mx_at 123 10 = some (.ldc 53, 2) by decide +kernel) (by decide) ow123 ki120053
set_option maxRecDepth 20000 in
theorem i123_12 : ex_ X d 123 12 [v0, .int x] [w0] h Q = ex_ X d 123 13 [v0, .int x] [.int x, w0] h Q := ex_nx (show mx_at 123 12 = some (.iload_n 1, 1) by decide +kernel) rfl
set_option maxRecDepth 20000 in
theorem i123_13 : ex_ X d 123 13 [v0, v1] [.int y, .int x] h Q = ex_ X d 123 14 [v0, v1] [.int (x - y)] h Q := ex_nx (show mx_at 123 13 = some (.isub, 1) by decide +kernel) rfl
set_option maxRecDepth 20000 in
theorem i123_14 : ex_ X d 123 14 [v0, v1] [.int x] h Q = Q (some (.int x)) h := ex_ret (show mx_at 123 14 = some (.ireturn, 1) by decide +kernel) (mx_retI rt123)
theorem i123_e : ev_ X d 123 [.ref a, .int x0] h Q = ex_ X d 123 0 [.ref a, .int x0] [] h Q := by rw [ev_, ml123]; rfl
-- 124 X12_in
set_option maxRecDepth 20000 in
theorem i124_0 : ex_ X d 124 0 [.long jx, v1, v2, v3, v4, v5] [] h Q = ex_ X d 124 1 [.long jx, v1, v2, v3, v4, v5] [.long jx] h Q := ex_nx (show mx_at 124 0 = some (.lload_n 0, 1) by decide +kernel) rfl
set_option maxRecDepth 20000 in
theorem i124_1 : ex_ X d 124 1 [v0, v1, .long jx, v3, v4, v5] [w0] h Q = ex_ X d 124 2 [v0, v1, .long jx, v3, v4, v5] [.long jx, w0] h Q := ex_nx (show mx_at 124 1 = some (.lload_n 2, 1) by decide +kernel) rfl
set_option maxRecDepth 20000 in
theorem i124_2 : ex_ X d 124 2 [v0, v1, v2, v3, v4, v5] [.long jy, .long jx] h Q = ex_ X d 124 3 [v0, v1, v2, v3, v4, v5] [.int (lg_cmp jx jy)] h Q := ex_nx (show mx_at 124 2 = some (.lcmp, 1) by decide +kernel) rfl
set_option maxRecDepth 20000 in
theorem i124_3 : ex_ X d 124 3 [v0, v1, v2, v3, v4, v5] [.int x] h Q = if x < 0 then ex_ X d 124 17 [v0, v1, v2, v3, v4, v5] [] h Q else ex_ X d 124 6 [v0, v1, v2, v3, v4, v5] [] h Q := (R_br (show mx_at 124 3 = some (.ifCond .lt 14, 3) by decide +kernel) rfl rfl).trans mx_ite
set_option maxRecDepth 20000 in
theorem i124_6 : ex_ X d 124 6 [.long jx, v1, v2, v3, v4, v5] [] h Q = ex_ X d 124 7 [.long jx, v1, v2, v3, v4, v5] [.long jx] h Q := ex_nx (show mx_at 124 6 = some (.lload_n 0, 1) by decide +kernel) rfl
set_option maxRecDepth 20000 in
theorem i124_7 : ex_ X d 124 7 [v0, v1, v2, v3, .long jx, v5] [w0] h Q = ex_ X d 124 9 [v0, v1, v2, v3, .long jx, v5] [.long jx, w0] h Q := ex_nx (show mx_at 124 7 = some (.lload 4, 2) by decide +kernel) rfl
set_option maxRecDepth 20000 in
theorem i124_9 : ex_ X d 124 9 [v0, v1, v2, v3, v4, v5] [.long jy, .long jx] h Q = ex_ X d 124 10 [v0, v1, v2, v3, v4, v5] [.int (lg_cmp jx jy)] h Q := ex_nx (show mx_at 124 9 = some (.lcmp, 1) by decide +kernel) rfl
set_option maxRecDepth 20000 in
theorem i124_10 : ex_ X d 124 10 [v0, v1, v2, v3, v4, v5] [.int x] h Q = if 0 < x then ex_ X d 124 17 [v0, v1, v2, v3, v4, v5] [] h Q else ex_ X d 124 13 [v0, v1, v2, v3, v4, v5] [] h Q := (R_br (show mx_at 124 10 = some (.ifCond .gt 7, 3) by decide +kernel) rfl rfl).trans mx_ite
set_option maxRecDepth 20000 in
theorem i124_13 : ex_ X d 124 13 [v0, v1, v2, v3, v4, v5] [] h Q = ex_ X d 124 14 [v0, v1, v2, v3, v4, v5] [.int 1] h Q := R_iconst (show mx_at 124 13 = some (.iconst 1, 1) by decide +kernel) (by decide)
set_option maxRecDepth 20000 in
theorem i124_14 : ex_ X d 124 14 [v0, v1, v2, v3, v4, v5] [w0] h Q = ex_ X d 124 18 [v0, v1, v2, v3, v4, v5] [w0] h Q := R_to (show mx_at 124 14 = some (.goto 4, 3) by decide +kernel) rfl rfl
set_option maxRecDepth 20000 in
theorem i124_17 : ex_ X d 124 17 [v0, v1, v2, v3, v4, v5] [] h Q = ex_ X d 124 18 [v0, v1, v2, v3, v4, v5] [.int 0] h Q := R_iconst (show mx_at 124 17 = some (.iconst 0, 1) by decide +kernel) (by decide)
set_option maxRecDepth 20000 in
theorem i124_18 (hx : x = 0 ∨ x = 1) : ex_ X d 124 18 [v0, v1, v2, v3, v4, v5] [.int x] h Q = Q (some (.int x)) h := ex_ret (show mx_at 124 18 = some (.ireturn, 1) by decide +kernel) (mx_retZ hx rt124)
theorem i124_e : ev_ X d 124 [.long j0, .long j1, .long j2] h Q = ex_ X d 124 0 [.long j0, .double 0, .long j1, .double 0, .long j2, .double 0] [] h Q := by rw [ev_, ml124]; rfl
-- 125 X12_held
set_option maxRecDepth 20000 in
theorem i125_0 : ex_ X d 125 0 [.int x, v1, v2] [] h Q = ex_ X d 125 1 [.int x, v1, v2] [.int x] h Q := ex_nx (show mx_at 125 0 = some (.iload_n 0, 1) by decide +kernel) rfl
set_option maxRecDepth 20000 in
theorem i125_1 : ex_ X d 125 1 [v0, .int x, v2] [w0] h Q = ex_ X d 125 2 [v0, .int x, v2] [.int x, w0] h Q := ex_nx (show mx_at 125 1 = some (.iload_n 1, 1) by decide +kernel) rfl
set_option maxRecDepth 20000 in
theorem i125_2 : ex_ X d 125 2 [v0, v1, v2] [.int y, .int x] h Q = if y ≤ x then ex_ X d 125 9 [v0, v1, v2] [] h Q else ex_ X d 125 5 [v0, v1, v2] [] h Q := (R_br (show mx_at 125 2 = some (.if_icmp .ge 7, 3) by decide +kernel) rfl rfl).trans mx_ite
set_option maxRecDepth 20000 in
theorem i125_5 : ex_ X d 125 5 [v0, .int x, v2] [] h Q = ex_ X d 125 6 [v0, .int x, v2] [.int x] h Q := ex_nx (show mx_at 125 5 = some (.iload_n 1, 1) by decide +kernel) rfl
set_option maxRecDepth 20000 in
theorem i125_6 : ex_ X d 125 6 [v0, v1, v2] [w0] h Q = ex_ X d 125 19 [v0, v1, v2] [w0] h Q := R_to (show mx_at 125 6 = some (.goto 13, 3) by decide +kernel) rfl rfl
set_option maxRecDepth 20000 in
theorem i125_9 : ex_ X d 125 9 [.int x, v1, v2] [] h Q = ex_ X d 125 10 [.int x, v1, v2] [.int x] h Q := ex_nx (show mx_at 125 9 = some (.iload_n 0, 1) by decide +kernel) rfl
set_option maxRecDepth 20000 in
theorem i125_10 : ex_ X d 125 10 [v0, v1, .int x] [w0] h Q = ex_ X d 125 11 [v0, v1, .int x] [.int x, w0] h Q := ex_nx (show mx_at 125 10 = some (.iload_n 2, 1) by decide +kernel) rfl
set_option maxRecDepth 20000 in
theorem i125_11 : ex_ X d 125 11 [v0, v1, v2] [.int y, .int x] h Q = if x ≤ y then ex_ X d 125 18 [v0, v1, v2] [] h Q else ex_ X d 125 14 [v0, v1, v2] [] h Q := (R_br (show mx_at 125 11 = some (.if_icmp .le 7, 3) by decide +kernel) rfl rfl).trans mx_ite
set_option maxRecDepth 20000 in
theorem i125_14 : ex_ X d 125 14 [v0, v1, .int x] [] h Q = ex_ X d 125 15 [v0, v1, .int x] [.int x] h Q := ex_nx (show mx_at 125 14 = some (.iload_n 2, 1) by decide +kernel) rfl
set_option maxRecDepth 20000 in
theorem i125_15 : ex_ X d 125 15 [v0, v1, v2] [w0] h Q = ex_ X d 125 19 [v0, v1, v2] [w0] h Q := R_to (show mx_at 125 15 = some (.goto 4, 3) by decide +kernel) rfl rfl
set_option maxRecDepth 20000 in
theorem i125_18 : ex_ X d 125 18 [.int x, v1, v2] [] h Q = ex_ X d 125 19 [.int x, v1, v2] [.int x] h Q := ex_nx (show mx_at 125 18 = some (.iload_n 0, 1) by decide +kernel) rfl
set_option maxRecDepth 20000 in
theorem i125_19 : ex_ X d 125 19 [v0, v1, v2] [.int x] h Q = Q (some (.int x)) h := ex_ret (show mx_at 125 19 = some (.ireturn, 1) by decide +kernel) (mx_retI rt125)
theorem i125_e : ev_ X d 125 [.int x0, .int x1, .int x2] h Q = ex_ X d 125 0 [.int x0, .int x1, .int x2] [] h Q := by rw [ev_, ml125]; rfl
-- 126 X12_copies
set_option maxRecDepth 20000 in
theorem i126_0 : ex_ X d 126 0 [v0, v1, v2] [] h Q = ex_ X d 126 1 [v0, v1, v2] [.int 0] h Q := R_iconst (show mx_at 126 0 = some (.iconst 0, 1) by decide +kernel) (by decide)
set_option maxRecDepth 20000 in
theorem i126_1 : ex_ X d 126 1 [v0, v1, v2] [.int x] h Q = (mx_nl v1 = true ∧ ex_ X d 126 2 [v0, v1, .int x] [] h Q) := mx_t1 (R_st (ok := mx_isI) (n := 2) (w := 1) (show mx_at 126 1 = some (.istore_n 2, 1) by decide +kernel) (fun _ _ => rfl) (Nat.le_of_ble_eq_true rfl)) rfl
set_option maxRecDepth 20000 in
theorem i126_2 : ex_ X d 126 2 [v0, v1, .int x] [] h Q = ex_ X d 126 3 [v0, v1, .int x] [.int x] h Q := ex_nx (show mx_at 126 2 = some (.iload_n 2, 1) by decide +kernel) rfl
set_option maxRecDepth 20000 in
theorem i126_3 : ex_ X d 126 3 [v0, v1, v2] [w0] h Q = ex_ X d 126 6 [v0, v1, v2] [.int 280, w0] h Q := R_sipush (show mx_at 126 3 = some (.sipush 280, 3) by decide +kernel) (by decide)
set_option maxRecDepth 20000 in
theorem i126_6 : ex_ X d 126 6 [v0, v1, v2] [.int y, .int x] h Q = if y ≤ x then ex_ X d 126 21 [v0, v1, v2] [] h Q else ex_ X d 126 9 [v0, v1, v2] [] h Q := (R_br (show mx_at 126 6 = some (.if_icmp .ge 15, 3) by decide +kernel) rfl rfl).trans mx_ite
set_option maxRecDepth 20000 in
theorem i126_9 : ex_ X d 126 9 [v0, .ref a, v2] [] h Q = ex_ X d 126 10 [v0, .ref a, v2] [.ref a] h Q := ex_nx (show mx_at 126 9 = some (.aload_n 1, 1) by decide +kernel) rfl
set_option maxRecDepth 20000 in
theorem i126_10 : ex_ X d 126 10 [v0, v1, .int x] [w0] h Q = ex_ X d 126 11 [v0, v1, .int x] [.int x, w0] h Q := ex_nx (show mx_at 126 10 = some (.iload_n 2, 1) by decide +kernel) rfl
set_option maxRecDepth 20000 in
theorem i126_11 : ex_ X d 126 11 [.ref a, v1, v2] [w0, w1] h Q = ex_ X d 126 12 [.ref a, v1, v2] [.ref a, w0, w1] h Q := ex_nx (show mx_at 126 11 = some (.aload_n 0, 1) by decide +kernel) rfl
set_option maxRecDepth 20000 in
theorem i126_12 : ex_ X d 126 12 [v0, v1, .int x] [w0, w1, w2] h Q = ex_ X d 126 13 [v0, v1, .int x] [.int x, w0, w1, w2] h Q := ex_nx (show mx_at 126 12 = some (.iload_n 2, 1) by decide +kernel) rfl
set_option maxRecDepth 20000 in
theorem i126_13 : ex_ X d 126 13 [v0, v1, v2] [.int i, .ref a, w0, w1] h Q = (ik_ h a i = true ∧ ex_ X d 126 14 [v0, v1, v2] [.int (ia_ h a i), w0, w1] h Q) := R_iald (show mx_at 126 13 = some (.iaload, 1) by decide +kernel)
set_option maxRecDepth 20000 in
theorem i126_14 : ex_ X d 126 14 [v0, v1, v2] [.int x, .int i, .ref a] h Q = (ik_ h a i = true ∧ ex_ X d 126 15 [v0, v1, v2] [] (is_ h a i x) Q) := R_iast (show mx_at 126 14 = some (.iastore, 1) by decide +kernel)
set_option maxRecDepth 20000 in
theorem i126_15 : ex_ X d 126 15 [v0, v1, .int x] [] h Q = (mx_nl v1 = true ∧ ex_ X d 126 18 [v0, v1, .int (x + 1)] [] h Q) := R_iinc (n := 2) (c := 1) (show mx_at 126 15 = some (.iinc 2 1, 3) by decide +kernel) rfl
set_option maxRecDepth 20000 in
theorem i126_18 : ex_ X d 126 18 [v0, v1, v2] [] h Q = ex_ X d 126 2 [v0, v1, v2] [] h Q := R_to (show mx_at 126 18 = some (.goto (-16), 3) by decide +kernel) rfl rfl
set_option maxRecDepth 20000 in
theorem i126_21 : ex_ X d 126 21 [v0, v1, v2] [] h Q = Q none h := ex_ret (show mx_at 126 21 = some (.return_, 1) by decide +kernel) (mx_retV rt126)
theorem i126_e : ev_ X d 126 [.ref a0, .ref a1] h Q = ex_ X d 126 0 [.ref a0, .ref a1, .double 0] [] h Q := by rw [ev_, ml126]; rfl
-- 127 X12_isSeller
set_option maxRecDepth 20000 in
theorem i127_0 : ex_ X d 127 0 [v0, .int x] [] h Q = ex_ X d 127 1 [v0, .int x] [.int x] h Q := ex_nx (show mx_at 127 0 = some (.iload_n 1, 1) by decide +kernel) rfl
set_option maxRecDepth 20000 in
theorem i127_1 : ex_ X d 127 1 [v0, v1] [.int x] h Q = ex_ X d 127 2 [v0, v1] [.long x.toInt64] h Q := ex_nx (show mx_at 127 1 = some (.i2l, 1) by decide +kernel) rfl
set_option maxRecDepth 20000 in
theorem i127_2 : ex_ X d 127 2 [v0, v1] [w0] h Q = ex_ X d 127 3 [v0, v1] [.long 0, w0] h Q := ex_nx (show mx_at 127 2 = some (.lconst 0, 1) by decide +kernel) rfl
set_option maxRecDepth 20000 in
theorem i127_3 : ex_ X d 127 3 [.ref a, v1] [w0, w1] h Q = ex_ X d 127 4 [.ref a, v1] [.ref a, w0, w1] h Q := ex_nx (show mx_at 127 3 = some (.aload_n 0, 1) by decide +kernel) rfl
set_option maxRecDepth 20000 in
theorem i127_4 : ex_ X d 127 4 [v0, v1] [.ref a, w0, w1] h Q = (gk_ h a 0 [(12, 0)] = true ∧ ex_ X d 127 7 [v0, v1] [gv_ h a 0, w0, w1] h Q) := R_getf (show mx_at 127 4 = some (.getfield 7, 3) by decide +kernel) (mx_fdo ow127 fd120007)
set_option maxRecDepth 20000 in
theorem i127_7 : ex_ X d 127 7 [v0, v1] [w0, w1, w2] h Q = ex_ X d 127 8 [v0, v1] [.int 1, w0, w1, w2] h Q := R_iconst (show mx_at 127 7 = some (.iconst 1, 1) by decide +kernel) (by decide)
set_option maxRecDepth 20000 in
theorem i127_8 : ex_ X d 127 8 [v0, v1] [.int i, .ref a, w0, w1] h Q = (ik_ h a i = true ∧ ex_ X d 127 9 [v0, v1] [.int (ia_ h a i), w0, w1] h Q) := R_iald (show mx_at 127 8 = some (.iaload, 1) by decide +kernel)
set_option maxRecDepth 20000 in
theorem i127_9 : ex_ X d 127 9 [v0, v1] [w0, w1, w2] h Q = ex_ X d 127 10 [v0, v1] [.int 1, w0, w1, w2] h Q := R_iconst (show mx_at 127 9 = some (.iconst 1, 1) by decide +kernel) (by decide)
set_option maxRecDepth 20000 in
theorem i127_10 : ex_ X d 127 10 [v0, v1] [.int y, .int x, w0, w1] h Q = ex_ X d 127 11 [v0, v1] [.int (x - y), w0, w1] h Q := ex_nx (show mx_at 127 10 = some (.isub, 1) by decide +kernel) rfl
set_option maxRecDepth 20000 in
theorem i127_11 : ex_ X d 127 11 [v0, v1] [.int x, w0, w1] h Q = ex_ X d 127 12 [v0, v1] [.long x.toInt64, w0, w1] h Q := ex_nx (show mx_at 127 11 = some (.i2l, 1) by decide +kernel) rfl
set_option maxRecDepth 20000 in
theorem i127_12 : ex_ X (d + 1) 127 12 [v0, v1] [.long j2, .long j1, .long j0] h Q = ev_ X d 124 [.long j0, .long j1, .long j2] h (fun r h' => ex_ X (d + 1) 127 15 [v0, v1] (r.toList ++ []) h' Q) := R_stat (show mx_at 127 12 = some (.invokestatic 54, 3) by decide +kernel) (mx_clk ow127 cc12_54) (Nat.le_of_ble_eq_true rfl) rfl rfl (Nat.le_of_ble_eq_true rfl) ml124 (Nat.le_of_ble_eq_true rfl)
set_option maxRecDepth 20000 in
theorem i127_15 (hx : x = 0 ∨ x = 1) : ex_ X d 127 15 [v0, v1] [.int x] h Q = Q (some (.int x)) h := ex_ret (show mx_at 127 15 = some (.ireturn, 1) by decide +kernel) (mx_retZ hx rt127)
theorem i127_e : ev_ X d 127 [.ref a, .int x0] h Q = ex_ X d 127 0 [.ref a, .int x0] [] h Q := by rw [ev_, ml127]; rfl
-- 128 X12_isSort
set_option maxRecDepth 20000 in
theorem i128_0 : ex_ X d 128 0 [v0, .int x] [] h Q = ex_ X d 128 1 [v0, .int x] [.int x] h Q := ex_nx (show mx_at 128 0 = some (.iload_n 1, 1) by decide +kernel) rfl
set_option maxRecDepth 20000 in
theorem i128_1 : ex_ X d 128 1 [v0, v1] [.int x] h Q = ex_ X d 128 2 [v0, v1] [.long x.toInt64] h Q := ex_nx (show mx_at 128 1 = some (.i2l, 1) by decide +kernel) rfl
set_option maxRecDepth 20000 in
theorem i128_2 : ex_ X d 128 2 [v0, v1] [w0] h Q = ex_ X d 128 3 [v0, v1] [.long 0, w0] h Q := ex_nx (show mx_at 128 2 = some (.lconst 0, 1) by decide +kernel) rfl
set_option maxRecDepth 20000 in
theorem i128_3 : ex_ X d 128 3 [.ref a, v1] [w0, w1] h Q = ex_ X d 128 4 [.ref a, v1] [.ref a, w0, w1] h Q := ex_nx (show mx_at 128 3 = some (.aload_n 0, 1) by decide +kernel) rfl
set_option maxRecDepth 20000 in
theorem i128_4 : ex_ X d 128 4 [v0, v1] [.ref a, w0, w1] h Q = (gk_ h a 0 [(12, 0)] = true ∧ ex_ X d 128 7 [v0, v1] [gv_ h a 0, w0, w1] h Q) := R_getf (show mx_at 128 4 = some (.getfield 7, 3) by decide +kernel) (mx_fdo ow128 fd120007)
set_option maxRecDepth 20000 in
theorem i128_7 : ex_ X d 128 7 [v0, v1] [w0, w1, w2] h Q = ex_ X d 128 8 [v0, v1] [.int 2, w0, w1, w2] h Q := R_iconst (show mx_at 128 7 = some (.iconst 2, 1) by decide +kernel) (by decide)
set_option maxRecDepth 20000 in
theorem i128_8 : ex_ X d 128 8 [v0, v1] [.int i, .ref a, w0, w1] h Q = (ik_ h a i = true ∧ ex_ X d 128 9 [v0, v1] [.int (ia_ h a i), w0, w1] h Q) := R_iald (show mx_at 128 8 = some (.iaload, 1) by decide +kernel)
set_option maxRecDepth 20000 in
theorem i128_9 : ex_ X d 128 9 [v0, v1] [w0, w1, w2] h Q = ex_ X d 128 10 [v0, v1] [.int 1, w0, w1, w2] h Q := R_iconst (show mx_at 128 9 = some (.iconst 1, 1) by decide +kernel) (by decide)
set_option maxRecDepth 20000 in
theorem i128_10 : ex_ X d 128 10 [v0, v1] [.int y, .int x, w0, w1] h Q = ex_ X d 128 11 [v0, v1] [.int (x - y), w0, w1] h Q := ex_nx (show mx_at 128 10 = some (.isub, 1) by decide +kernel) rfl
set_option maxRecDepth 20000 in
theorem i128_11 : ex_ X d 128 11 [v0, v1] [.int x, w0, w1] h Q = ex_ X d 128 12 [v0, v1] [.long x.toInt64, w0, w1] h Q := ex_nx (show mx_at 128 11 = some (.i2l, 1) by decide +kernel) rfl
set_option maxRecDepth 20000 in
theorem i128_12 : ex_ X (d + 1) 128 12 [v0, v1] [.long j2, .long j1, .long j0] h Q = ev_ X d 124 [.long j0, .long j1, .long j2] h (fun r h' => ex_ X (d + 1) 128 15 [v0, v1] (r.toList ++ []) h' Q) := R_stat (show mx_at 128 12 = some (.invokestatic 54, 3) by decide +kernel) (mx_clk ow128 cc12_54) (Nat.le_of_ble_eq_true rfl) rfl rfl (Nat.le_of_ble_eq_true rfl) ml124 (Nat.le_of_ble_eq_true rfl)
set_option maxRecDepth 20000 in
theorem i128_15 (hx : x = 0 ∨ x = 1) : ex_ X d 128 15 [v0, v1] [.int x] h Q = Q (some (.int x)) h := ex_ret (show mx_at 128 15 = some (.ireturn, 1) by decide +kernel) (mx_retZ hx rt128)
theorem i128_e : ev_ X d 128 [.ref a, .int x0] h Q = ex_ X d 128 0 [.ref a, .int x0] [] h Q := by rw [ev_, ml128]; rfl
-- 129 X12_se
set_option maxRecDepth 20000 in
theorem i129_0 : ex_ X d 129 0 [.ref a, v1, v2] [] h Q = ex_ X d 129 1 [.ref a, v1, v2] [.ref a] h Q := ex_nx (show mx_at 129 0 = some (.aload_n 0, 1) by decide +kernel) rfl
set_option maxRecDepth 20000 in
theorem i129_1 : ex_ X d 129 1 [v0, v1, v2] [w0] h Q = ex_ X d 129 3 [v0, v1, v2] [.int 20, w0] h Q := R_bipush (show mx_at 129 1 = some (.bipush 20, 2) by decide +kernel) (by decide)
set_option maxRecDepth 20000 in
theorem i129_3 : ex_ X d 129 3 [v0, v1, v2] [w0, w1] h Q = ex_ X d 129 5 [v0, v1, v2] [.int 8, w0, w1] h Q := R_bipush (show mx_at 129 3 = some (.bipush 8, 2) by decide +kernel) (by decide)
set_option maxRecDepth 20000 in
theorem i129_5 : ex_ X d 129 5 [v0, .int x, v2] [w0, w1, w2] h Q = ex_ X d 129 6 [v0, .int x, v2] [.int x, w0, w1, w2] h Q := ex_nx (show mx_at 129 5 = some (.iload_n 1, 1) by decide +kernel) rfl
set_option maxRecDepth 20000 in
theorem i129_6 : ex_ X d 129 6 [v0, v1, v2] [.int y, .int x, w0, w1] h Q = ex_ X d 129 7 [v0, v1, v2] [.int (x * y), w0, w1] h Q := ex_nx (show mx_at 129 6 = some (.imul, 1) by decide +kernel) rfl
set_option maxRecDepth 20000 in
theorem i129_7 : ex_ X d 129 7 [v0, v1, v2] [.int y, .int x, w0] h Q = ex_ X d 129 8 [v0, v1, v2] [.int (x + y), w0] h Q := ex_nx (show mx_at 129 7 = some (.iadd, 1) by decide +kernel) rfl
set_option maxRecDepth 20000 in
theorem i129_8 : ex_ X d 129 8 [v0, v1, .int x] [w0, w1] h Q = ex_ X d 129 9 [v0, v1, .int x] [.int x, w0, w1] h Q := ex_nx (show mx_at 129 8 = some (.iload_n 2, 1) by decide +kernel) rfl
set_option maxRecDepth 20000 in
theorem i129_9 : ex_ X d 129 9 [v0, v1, v2] [.int y, .int x, w0] h Q = ex_ X d 129 10 [v0, v1, v2] [.int (x + y), w0] h Q := ex_nx (show mx_at 129 9 = some (.iadd, 1) by decide +kernel) rfl
set_option maxRecDepth 20000 in
theorem i129_10 : ex_ X d 129 10 [v0, v1, v2] [.int i, .ref a] h Q = (ik_ h a i = true ∧ ex_ X d 129 11 [v0, v1, v2] [.int (ia_ h a i)] h Q) := R_iald (show mx_at 129 10 = some (.iaload, 1) by decide +kernel)
set_option maxRecDepth 20000 in
theorem i129_11 : ex_ X d 129 11 [v0, v1, v2] [.int x] h Q = Q (some (.int x)) h := ex_ret (show mx_at 129 11 = some (.ireturn, 1) by decide +kernel) (mx_retI rt129)
theorem i129_e : ev_ X d 129 [.ref a0, .int x1, .int x2] h Q = ex_ X d 129 0 [.ref a0, .int x1, .int x2] [] h Q := by rw [ev_, ml129]; rfl
-- 130 X12_so
set_option maxRecDepth 20000 in
theorem i130_0 : ex_ X d 130 0 [.ref a, v1, v2] [] h Q = ex_ X d 130 1 [.ref a, v1, v2] [.ref a] h Q := ex_nx (show mx_at 130 0 = some (.aload_n 0, 1) by decide +kernel) rfl
set_option maxRecDepth 20000 in
theorem i130_1 : ex_ X d 130 1 [v0, v1, v2] [w0] h Q = ex_ X d 130 3 [v0, v1, v2] [.int 70, w0] h Q := R_bipush (show mx_at 130 1 = some (.bipush 70, 2) by decide +kernel) (by decide)
set_option maxRecDepth 20000 in
theorem i130_3 : ex_ X d 130 3 [v0, v1, v2] [w0, w1] h Q = ex_ X d 130 4 [v0, v1, v2] [.int 4, w0, w1] h Q := R_iconst (show mx_at 130 3 = some (.iconst 4, 1) by decide +kernel) (by decide)
set_option maxRecDepth 20000 in
theorem i130_4 : ex_ X d 130 4 [v0, .int x, v2] [w0, w1, w2] h Q = ex_ X d 130 5 [v0, .int x, v2] [.int x, w0, w1, w2] h Q := ex_nx (show mx_at 130 4 = some (.iload_n 1, 1) by decide +kernel) rfl
set_option maxRecDepth 20000 in
theorem i130_5 : ex_ X d 130 5 [v0, v1, v2] [.int y, .int x, w0, w1] h Q = ex_ X d 130 6 [v0, v1, v2] [.int (x * y), w0, w1] h Q := ex_nx (show mx_at 130 5 = some (.imul, 1) by decide +kernel) rfl
set_option maxRecDepth 20000 in
theorem i130_6 : ex_ X d 130 6 [v0, v1, v2] [.int y, .int x, w0] h Q = ex_ X d 130 7 [v0, v1, v2] [.int (x + y), w0] h Q := ex_nx (show mx_at 130 6 = some (.iadd, 1) by decide +kernel) rfl
set_option maxRecDepth 20000 in
theorem i130_7 : ex_ X d 130 7 [v0, v1, .int x] [w0, w1] h Q = ex_ X d 130 8 [v0, v1, .int x] [.int x, w0, w1] h Q := ex_nx (show mx_at 130 7 = some (.iload_n 2, 1) by decide +kernel) rfl
set_option maxRecDepth 20000 in
theorem i130_8 : ex_ X d 130 8 [v0, v1, v2] [.int y, .int x, w0] h Q = ex_ X d 130 9 [v0, v1, v2] [.int (x + y), w0] h Q := ex_nx (show mx_at 130 8 = some (.iadd, 1) by decide +kernel) rfl
set_option maxRecDepth 20000 in
theorem i130_9 : ex_ X d 130 9 [v0, v1, v2] [.int i, .ref a] h Q = (ik_ h a i = true ∧ ex_ X d 130 10 [v0, v1, v2] [.int (ia_ h a i)] h Q) := R_iald (show mx_at 130 9 = some (.iaload, 1) by decide +kernel)
set_option maxRecDepth 20000 in
theorem i130_10 : ex_ X d 130 10 [v0, v1, v2] [.int x] h Q = Q (some (.int x)) h := ex_ret (show mx_at 130 10 = some (.ireturn, 1) by decide +kernel) (mx_retI rt130)
theorem i130_e : ev_ X d 130 [.ref a0, .int x1, .int x2] h Q = ex_ X d 130 0 [.ref a0, .int x1, .int x2] [] h Q := by rw [ev_, ml130]; rfl
-- 131 X12_here
set_option maxRecDepth 20000 in
theorem i131_0 : ex_ X d 131 0 [.ref a] [] h Q = ex_ X d 131 1 [.ref a] [.ref a] h Q := ex_nx (show mx_at 131 0 = some (.aload_n 0, 1) by decide +kernel) rfl
set_option maxRecDepth 20000 in
theorem i131_1 : ex_ X d 131 1 [v0] [.ref a] h Q = (gk_ h a 6 [(12, 0)] = true ∧ ex_ X d 131 4 [v0] [gv_ h a 6] h Q) := R_getf (show mx_at 131 1 = some (.getfield 58, 3) by decide +kernel) (mx_fdo ow131 fd120058)
set_option maxRecDepth 20000 in
theorem i131_4 : ex_ X d 131 4 [.ref a] [w0] h Q = ex_ X d 131 5 [.ref a] [.ref a, w0] h Q := ex_nx (show mx_at 131 4 = some (.aload_n 0, 1) by decide +kernel) rfl
set_option maxRecDepth 20000 in
theorem i131_5 : ex_ X d 131 5 [v0] [.ref a, w0] h Q = (gk_ h a 7 [(12, 0)] = true ∧ ex_ X d 131 8 [v0] [gv_ h a 7, w0] h Q) := R_getf (show mx_at 131 5 = some (.getfield 62, 3) by decide +kernel) (mx_fdo ow131 fd120062)
set_option maxRecDepth 20000 in
theorem i131_8 : ex_ X d 131 8 [v0] [.int y, .int x] h Q = if y ≤ x then ex_ X d 131 35 [v0] [] h Q else ex_ X d 131 11 [v0] [] h Q := (R_br (show mx_at 131 8 = some (.if_icmp .ge 27, 3) by decide +kernel) rfl rfl).trans mx_ite
set_option maxRecDepth 20000 in
theorem i131_11 : ex_ X d 131 11 [.ref a] [] h Q = ex_ X d 131 12 [.ref a] [.ref a] h Q := ex_nx (show mx_at 131 11 = some (.aload_n 0, 1) by decide +kernel) rfl
set_option maxRecDepth 20000 in
theorem i131_12 : ex_ X d 131 12 [v0] [.ref a] h Q = (gk_ h a 8 [(12, 0)] = true ∧ ex_ X d 131 15 [v0] [gv_ h a 8] h Q) := R_getf (show mx_at 131 12 = some (.getfield 65, 3) by decide +kernel) (mx_fdo ow131 fd120065)
set_option maxRecDepth 20000 in
theorem i131_15 : ex_ X d 131 15 [v0] [.int x] h Q = if 0 ≤ x then ex_ X d 131 35 [v0] [] h Q else ex_ X d 131 18 [v0] [] h Q := (R_br (show mx_at 131 15 = some (.ifCond .ge 20, 3) by decide +kernel) rfl rfl).trans mx_ite
set_option maxRecDepth 20000 in
theorem i131_18 : ex_ X d 131 18 [.ref a] [] h Q = ex_ X d 131 19 [.ref a] [.ref a] h Q := ex_nx (show mx_at 131 18 = some (.aload_n 0, 1) by decide +kernel) rfl
set_option maxRecDepth 20000 in
theorem i131_19 : ex_ X d 131 19 [v0] [.ref a] h Q = (gk_ h a 0 [(12, 0)] = true ∧ ex_ X d 131 22 [v0] [gv_ h a 0] h Q) := R_getf (show mx_at 131 19 = some (.getfield 7, 3) by decide +kernel) (mx_fdo ow131 fd120007)
set_option maxRecDepth 20000 in
theorem i131_22 : ex_ X d 131 22 [.ref a] [w0] h Q = ex_ X d 131 23 [.ref a] [.ref a, w0] h Q := ex_nx (show mx_at 131 22 = some (.aload_n 0, 1) by decide +kernel) rfl
set_option maxRecDepth 20000 in
theorem i131_23 : ex_ X d 131 23 [v0] [.ref a, w0] h Q = (gk_ h a 5 [(12, 0)] = true ∧ ex_ X d 131 26 [v0] [gv_ h a 5, w0] h Q) := R_getf (show mx_at 131 23 = some (.getfield 68, 3) by decide +kernel) (mx_fdo ow131 fd120068)
set_option maxRecDepth 20000 in
theorem i131_26 : ex_ X d 131 26 [.ref a] [w0, w1] h Q = ex_ X d 131 27 [.ref a] [.ref a, w0, w1] h Q := ex_nx (show mx_at 131 26 = some (.aload_n 0, 1) by decide +kernel) rfl
set_option maxRecDepth 20000 in
theorem i131_27 : ex_ X d 131 27 [v0] [.ref a, w0, w1] h Q = (gk_ h a 6 [(12, 0)] = true ∧ ex_ X d 131 30 [v0] [gv_ h a 6, w0, w1] h Q) := R_getf (show mx_at 131 27 = some (.getfield 58, 3) by decide +kernel) (mx_fdo ow131 fd120058)
set_option maxRecDepth 20000 in
theorem i131_30 : ex_ X d 131 30 [v0] [.int y, .int x, w0] h Q = ex_ X d 131 31 [v0] [.int (x + y), w0] h Q := ex_nx (show mx_at 131 30 = some (.iadd, 1) by decide +kernel) rfl
set_option maxRecDepth 20000 in
theorem i131_31 : ex_ X d 131 31 [v0] [.int i, .ref a] h Q = (ik_ h a i = true ∧ ex_ X d 131 32 [v0] [.int (ia_ h a i)] h Q) := R_iald (show mx_at 131 31 = some (.iaload, 1) by decide +kernel)
set_option maxRecDepth 20000 in
theorem i131_32 : ex_ X d 131 32 [v0] [w0] h Q = ex_ X d 131 36 [v0] [w0] h Q := R_to (show mx_at 131 32 = some (.goto 4, 3) by decide +kernel) rfl rfl
set_option maxRecDepth 20000 in
theorem i131_35 : ex_ X d 131 35 [v0] [] h Q = ex_ X d 131 36 [v0] [.int (-1)] h Q := R_iconst (show mx_at 131 35 = some (.iconst (-1), 1) by decide +kernel) (by decide)
set_option maxRecDepth 20000 in
theorem i131_36 : ex_ X d 131 36 [v0] [.int x] h Q = Q (some (.int x)) h := ex_ret (show mx_at 131 36 = some (.ireturn, 1) by decide +kernel) (mx_retI rt131)
theorem i131_e : ev_ X d 131 [.ref a] h Q = ex_ X d 131 0 [.ref a] [] h Q := by rw [ev_, ml131]; rfl
-- 132 X12_wrong
set_option maxRecDepth 20000 in
theorem i132_0 : ex_ X d 132 0 [.ref a] [] h Q = ex_ X d 132 1 [.ref a] [.ref a] h Q := ex_nx (show mx_at 132 0 = some (.aload_n 0, 1) by decide +kernel) rfl
set_option maxRecDepth 20000 in
theorem i132_1 : ex_ X d 132 1 [.ref a] [w0] h Q = ex_ X d 132 2 [.ref a] [.ref a, w0] h Q := ex_nx (show mx_at 132 1 = some (.aload_n 0, 1) by decide +kernel) rfl
set_option maxRecDepth 20000 in
theorem i132_2 : ex_ X d 132 2 [v0] [.ref a, w0] h Q = (gk_ h a 8 [(12, 0)] = true ∧ ex_ X d 132 5 [v0] [gv_ h a 8, w0] h Q) := R_getf (show mx_at 132 2 = some (.getfield 65, 3) by decide +kernel) (mx_fdo ow132 fd120065)
set_option maxRecDepth 20000 in
theorem i132_5 : ex_ X d 132 5 [v0] [.int x, w0] h Q = if 0 ≤ x then ex_ X d 132 15 [v0] [w0] h Q else ex_ X d 132 8 [v0] [w0] h Q := (R_br (show mx_at 132 5 = some (.ifCond .ge 10, 3) by decide +kernel) rfl rfl).trans mx_ite
set_option maxRecDepth 20000 in
theorem i132_8 : ex_ X d 132 8 [.ref a] [w0] h Q = ex_ X d 132 9 [.ref a] [.ref a, w0] h Q := ex_nx (show mx_at 132 8 = some (.aload_n 0, 1) by decide +kernel) rfl
set_option maxRecDepth 20000 in
theorem i132_9 : ex_ X d 132 9 [v0] [.ref a, w0] h Q = (gk_ h a 6 [(12, 0)] = true ∧ ex_ X d 132 12 [v0] [gv_ h a 6, w0] h Q) := R_getf (show mx_at 132 9 = some (.getfield 58, 3) by decide +kernel) (mx_fdo ow132 fd120058)
set_option maxRecDepth 20000 in
theorem i132_12 : ex_ X d 132 12 [v0] [w0, w1] h Q = ex_ X d 132 19 [v0] [w0, w1] h Q := R_to (show mx_at 132 12 = some (.goto 7, 3) by decide +kernel) rfl rfl
set_option maxRecDepth 20000 in
theorem i132_15 : ex_ X d 132 15 [.ref a] [w0] h Q = ex_ X d 132 16 [.ref a] [.ref a, w0] h Q := ex_nx (show mx_at 132 15 = some (.aload_n 0, 1) by decide +kernel) rfl
set_option maxRecDepth 20000 in
theorem i132_16 : ex_ X d 132 16 [v0] [.ref a, w0] h Q = (gk_ h a 8 [(12, 0)] = true ∧ ex_ X d 132 19 [v0] [gv_ h a 8, w0] h Q) := R_getf (show mx_at 132 16 = some (.getfield 65, 3) by decide +kernel) (mx_fdo ow132 fd120065)
set_option maxRecDepth 20000 in
theorem i132_19 : ex_ X d 132 19 [v0] [w, .ref a] h Q = (pk_ 132 h a 8 w [(12, 0)] = true ∧ ex_ X d 132 22 [v0] [] (pf_ h a 8 w) Q) := R_putf (show mx_at 132 19 = some (.putfield 65, 3) by decide +kernel) (mx_fdo ow132 fd120065)
set_option maxRecDepth 20000 in
theorem i132_22 : ex_ X d 132 22 [v0] [] h Q = Q none h := ex_ret (show mx_at 132 22 = some (.return_, 1) by decide +kernel) (mx_retV rt132)
theorem i132_e : ev_ X d 132 [.ref a] h Q = ex_ X d 132 0 [.ref a] [] h Q := by rw [ev_, ml132]; rfl
-- 133 X12_takes
set_option maxRecDepth 20000 in
theorem i133_0 : ex_ X d 133 0 [.ref a, v1] [] h Q = ex_ X d 133 1 [.ref a, v1] [.ref a] h Q := ex_nx (show mx_at 133 0 = some (.aload_n 0, 1) by decide +kernel) rfl
set_option maxRecDepth 20000 in
theorem i133_1 (hc : co_ h a = some 12) : ex_ X (d + 1) 133 1 [v0, v1] [.ref a] h Q = ev_ X d 131 [.ref a] h (fun r h' => ex_ X (d + 1) 133 4 [v0, v1] (r.toList ++ []) h' Q) := R_vir (show mx_at 133 1 = some (.invokevirtual 71, 3) by decide +kernel) (mx_clk ow133 cc12_71) (Nat.le_of_ble_eq_true rfl) rfl rfl hc rfl (Nat.le_of_ble_eq_true rfl) (Nat.le_of_ble_eq_true rfl) (by rw [ml131]; exact Nat.le_of_ble_eq_true rfl)
set_option maxRecDepth 20000 in
theorem i133_4 : ex_ X d 133 4 [v0, .int x] [w0] h Q = ex_ X d 133 5 [v0, .int x] [.int x, w0] h Q := ex_nx (show mx_at 133 4 = some (.iload_n 1, 1) by decide +kernel) rfl
set_option maxRecDepth 20000 in
theorem i133_5 : ex_ X d 133 5 [v0, v1] [.int y, .int x] h Q = if x = y then ex_ X d 133 10 [v0, v1] [] h Q else ex_ X d 133 8 [v0, v1] [] h Q := (R_br (show mx_at 133 5 = some (.if_icmp .eq 5, 3) by decide +kernel) rfl rfl).trans mx_ite
set_option maxRecDepth 20000 in
theorem i133_8 : ex_ X d 133 8 [v0, v1] [] h Q = ex_ X d 133 9 [v0, v1] [.int 0] h Q := R_iconst (show mx_at 133 8 = some (.iconst 0, 1) by decide +kernel) (by decide)
set_option maxRecDepth 20000 in
theorem i133_9 (hx : x = 0 ∨ x = 1) : ex_ X d 133 9 [v0, v1] [.int x] h Q = Q (some (.int x)) h := ex_ret (show mx_at 133 9 = some (.ireturn, 1) by decide +kernel) (mx_retZ hx rt133)
set_option maxRecDepth 20000 in
theorem i133_10 : ex_ X d 133 10 [.ref a, v1] [] h Q = ex_ X d 133 11 [.ref a, v1] [.ref a] h Q := ex_nx (show mx_at 133 10 = some (.aload_n 0, 1) by decide +kernel) rfl
set_option maxRecDepth 20000 in
theorem i133_11 : ex_ X d 133 11 [v0, v1] [.ref a] h Q = ex_ X d 133 12 [v0, v1] [.ref a, .ref a] h Q := ex_nx (show mx_at 133 11 = some (.dup, 1) by decide +kernel) rfl
set_option maxRecDepth 20000 in
theorem i133_12 : ex_ X d 133 12 [v0, v1] [.ref a, w0] h Q = (gk_ h a 6 [(12, 0)] = true ∧ ex_ X d 133 15 [v0, v1] [gv_ h a 6, w0] h Q) := R_getf (show mx_at 133 12 = some (.getfield 58, 3) by decide +kernel) (mx_fdo ow133 fd120058)
set_option maxRecDepth 20000 in
theorem i133_15 : ex_ X d 133 15 [v0, v1] [w0, w1] h Q = ex_ X d 133 16 [v0, v1] [.int 1, w0, w1] h Q := R_iconst (show mx_at 133 15 = some (.iconst 1, 1) by decide +kernel) (by decide)
set_option maxRecDepth 20000 in
theorem i133_16 : ex_ X d 133 16 [v0, v1] [.int y, .int x, w0] h Q = ex_ X d 133 17 [v0, v1] [.int (x + y), w0] h Q := ex_nx (show mx_at 133 16 = some (.iadd, 1) by decide +kernel) rfl
set_option maxRecDepth 20000 in
theorem i133_17 : ex_ X d 133 17 [v0, v1] [w, .ref a] h Q = (pk_ 133 h a 6 w [(12, 0)] = true ∧ ex_ X d 133 20 [v0, v1] [] (pf_ h a 6 w) Q) := R_putf (show mx_at 133 17 = some (.putfield 58, 3) by decide +kernel) (mx_fdo ow133 fd120058)
set_option maxRecDepth 20000 in
theorem i133_20 : ex_ X d 133 20 [v0, v1] [] h Q = ex_ X d 133 21 [v0, v1] [.int 1] h Q := R_iconst (show mx_at 133 20 = some (.iconst 1, 1) by decide +kernel) (by decide)
set_option maxRecDepth 20000 in
theorem i133_21 (hx : x = 0 ∨ x = 1) : ex_ X d 133 21 [v0, v1] [.int x] h Q = Q (some (.int x)) h := ex_ret (show mx_at 133 21 = some (.ireturn, 1) by decide +kernel) (mx_retZ hx rt133)
theorem i133_e : ev_ X d 133 [.ref a, .int x0] h Q = ex_ X d 133 0 [.ref a, .int x0] [] h Q := by rw [ev_, ml133]; rfl
-- 134 X12_nameOf
set_option maxRecDepth 20000 in
theorem i134_0 : ex_ X d 134 0 [.ref a, v1] [] h Q = ex_ X d 134 1 [.ref a, v1] [.ref a] h Q := ex_nx (show mx_at 134 0 = some (.aload_n 0, 1) by decide +kernel) rfl
set_option maxRecDepth 20000 in
theorem i134_1 : ex_ X d 134 1 [v0, v1] [.ref a] h Q = (gk_ h a 10 [(12, 0)] = true ∧ ex_ X d 134 4 [v0, v1] [gv_ h a 10] h Q) := R_getf (show mx_at 134 1 = some (.getfield 75, 3) by decide +kernel) (mx_fdo ow134 fd120075)
set_option maxRecDepth 20000 in
theorem i134_4 : ex_ X d 134 4 [v0, v1] [.int x] h Q = if x = 0 then ex_ X d 134 49 [v0, v1] [] h Q else ex_ X d 134 7 [v0, v1] [] h Q := (R_br (show mx_at 134 4 = some (.ifCond .eq 45, 3) by decide +kernel) rfl rfl).trans mx_ite
set_option maxRecDepth 20000 in
theorem i134_7 : ex_ X d 134 7 [v0, .int x] [] h Q = ex_ X d 134 8 [v0, .int x] [.int x] h Q := ex_nx (show mx_at 134 7 = some (.iload_n 1, 1) by decide +kernel) rfl
set_option maxRecDepth 20000 in
theorem i134_8 : ex_ X d 134 8 [v0, v1] [w0] h Q = ex_ X d 134 10 [v0, v1] [.int 112, w0] h Q := R_bipush (show mx_at 134 8 = some (.bipush 112, 2) by decide +kernel) (by decide)
set_option maxRecDepth 20000 in
theorem i134_10 : ex_ X d 134 10 [v0, v1] [.int y, .int x] h Q = if ¬ x = y then ex_ X d 134 17 [v0, v1] [] h Q else ex_ X d 134 13 [v0, v1] [] h Q := (R_br (show mx_at 134 10 = some (.if_icmp .ne 7, 3) by decide +kernel) rfl rfl).trans mx_ite
set_option maxRecDepth 20000 in
theorem i134_13 : ex_ X d 134 13 [v0, v1] [] h Q = ex_ X d 134 14 [v0, v1] [.int 0] h Q := R_iconst (show mx_at 134 13 = some (.iconst 0, 1) by decide +kernel) (by decide)
set_option maxRecDepth 20000 in
theorem i134_14 : ex_ X d 134 14 [v0, v1] [w0] h Q = ex_ X d 134 48 [v0, v1] [w0] h Q := R_to (show mx_at 134 14 = some (.goto 34, 3) by decide +kernel) rfl rfl
set_option maxRecDepth 20000 in
theorem i134_17 : ex_ X d 134 17 [v0, .int x] [] h Q = ex_ X d 134 18 [v0, .int x] [.int x] h Q := ex_nx (show mx_at 134 17 = some (.iload_n 1, 1) by decide +kernel) rfl
set_option maxRecDepth 20000 in
theorem i134_18 : ex_ X d 134 18 [v0, v1] [w0] h Q = ex_ X d 134 20 [v0, v1] [.int 97, w0] h Q := R_bipush (show mx_at 134 18 = some (.bipush 97, 2) by decide +kernel) (by decide)
set_option maxRecDepth 20000 in
theorem i134_20 : ex_ X d 134 20 [v0, v1] [.int y, .int x] h Q = if ¬ x = y then ex_ X d 134 27 [v0, v1] [] h Q else ex_ X d 134 23 [v0, v1] [] h Q := (R_br (show mx_at 134 20 = some (.if_icmp .ne 7, 3) by decide +kernel) rfl rfl).trans mx_ite
set_option maxRecDepth 20000 in
theorem i134_23 : ex_ X d 134 23 [v0, v1] [] h Q = ex_ X d 134 24 [v0, v1] [.int 1] h Q := R_iconst (show mx_at 134 23 = some (.iconst 1, 1) by decide +kernel) (by decide)
set_option maxRecDepth 20000 in
theorem i134_24 : ex_ X d 134 24 [v0, v1] [w0] h Q = ex_ X d 134 48 [v0, v1] [w0] h Q := R_to (show mx_at 134 24 = some (.goto 24, 3) by decide +kernel) rfl rfl
set_option maxRecDepth 20000 in
theorem i134_27 : ex_ X d 134 27 [v0, .int x] [] h Q = ex_ X d 134 28 [v0, .int x] [.int x] h Q := ex_nx (show mx_at 134 27 = some (.iload_n 1, 1) by decide +kernel) rfl
set_option maxRecDepth 20000 in
theorem i134_28 : ex_ X d 134 28 [v0, v1] [w0] h Q = ex_ X d 134 30 [v0, v1] [.int 116, w0] h Q := R_bipush (show mx_at 134 28 = some (.bipush 116, 2) by decide +kernel) (by decide)
set_option maxRecDepth 20000 in
theorem i134_30 : ex_ X d 134 30 [v0, v1] [.int y, .int x] h Q = if ¬ x = y then ex_ X d 134 37 [v0, v1] [] h Q else ex_ X d 134 33 [v0, v1] [] h Q := (R_br (show mx_at 134 30 = some (.if_icmp .ne 7, 3) by decide +kernel) rfl rfl).trans mx_ite
set_option maxRecDepth 20000 in
theorem i134_33 : ex_ X d 134 33 [v0, v1] [] h Q = ex_ X d 134 34 [v0, v1] [.int 2] h Q := R_iconst (show mx_at 134 33 = some (.iconst 2, 1) by decide +kernel) (by decide)
set_option maxRecDepth 20000 in
theorem i134_34 : ex_ X d 134 34 [v0, v1] [w0] h Q = ex_ X d 134 48 [v0, v1] [w0] h Q := R_to (show mx_at 134 34 = some (.goto 14, 3) by decide +kernel) rfl rfl
set_option maxRecDepth 20000 in
theorem i134_37 : ex_ X d 134 37 [v0, .int x] [] h Q = ex_ X d 134 38 [v0, .int x] [.int x] h Q := ex_nx (show mx_at 134 37 = some (.iload_n 1, 1) by decide +kernel) rfl
set_option maxRecDepth 20000 in
theorem i134_38 : ex_ X d 134 38 [v0, v1] [w0] h Q = ex_ X d 134 40 [v0, v1] [.int 117, w0] h Q := R_bipush (show mx_at 134 38 = some (.bipush 117, 2) by decide +kernel) (by decide)
set_option maxRecDepth 20000 in
theorem i134_40 : ex_ X d 134 40 [v0, v1] [.int y, .int x] h Q = if ¬ x = y then ex_ X d 134 47 [v0, v1] [] h Q else ex_ X d 134 43 [v0, v1] [] h Q := (R_br (show mx_at 134 40 = some (.if_icmp .ne 7, 3) by decide +kernel) rfl rfl).trans mx_ite
set_option maxRecDepth 20000 in
theorem i134_43 : ex_ X d 134 43 [v0, v1] [] h Q = ex_ X d 134 44 [v0, v1] [.int 3] h Q := R_iconst (show mx_at 134 43 = some (.iconst 3, 1) by decide +kernel) (by decide)
set_option maxRecDepth 20000 in
theorem i134_44 : ex_ X d 134 44 [v0, v1] [w0] h Q = ex_ X d 134 48 [v0, v1] [w0] h Q := R_to (show mx_at 134 44 = some (.goto 4, 3) by decide +kernel) rfl rfl
set_option maxRecDepth 20000 in
theorem i134_47 : ex_ X d 134 47 [v0, v1] [] h Q = ex_ X d 134 48 [v0, v1] [.int (-1)] h Q := R_iconst (show mx_at 134 47 = some (.iconst (-1), 1) by decide +kernel) (by decide)
set_option maxRecDepth 20000 in
theorem i134_48 : ex_ X d 134 48 [v0, v1] [.int x] h Q = Q (some (.int x)) h := ex_ret (show mx_at 134 48 = some (.ireturn, 1) by decide +kernel) (mx_retI rt134)
set_option maxRecDepth 20000 in
theorem i134_49 : ex_ X d 134 49 [v0, .int x] [] h Q = ex_ X d 134 50 [v0, .int x] [.int x] h Q := ex_nx (show mx_at 134 49 = some (.iload_n 1, 1) by decide +kernel) rfl
set_option maxRecDepth 20000 in
theorem i134_50 : ex_ X d 134 50 [v0, v1] [w0] h Q = ex_ X d 134 52 [v0, v1] [.int 112, w0] h Q := R_bipush (show mx_at 134 50 = some (.bipush 112, 2) by decide +kernel) (by decide)
set_option maxRecDepth 20000 in
theorem i134_52 : ex_ X d 134 52 [v0, v1] [.int y, .int x] h Q = if ¬ x = y then ex_ X d 134 59 [v0, v1] [] h Q else ex_ X d 134 55 [v0, v1] [] h Q := (R_br (show mx_at 134 52 = some (.if_icmp .ne 7, 3) by decide +kernel) rfl rfl).trans mx_ite
set_option maxRecDepth 20000 in
theorem i134_55 : ex_ X d 134 55 [v0, v1] [] h Q = ex_ X d 134 56 [v0, v1] [.int 0] h Q := R_iconst (show mx_at 134 55 = some (.iconst 0, 1) by decide +kernel) (by decide)
set_option maxRecDepth 20000 in
theorem i134_56 : ex_ X d 134 56 [v0, v1] [w0] h Q = ex_ X d 134 90 [v0, v1] [w0] h Q := R_to (show mx_at 134 56 = some (.goto 34, 3) by decide +kernel) rfl rfl
set_option maxRecDepth 20000 in
theorem i134_59 : ex_ X d 134 59 [v0, .int x] [] h Q = ex_ X d 134 60 [v0, .int x] [.int x] h Q := ex_nx (show mx_at 134 59 = some (.iload_n 1, 1) by decide +kernel) rfl
set_option maxRecDepth 20000 in
theorem i134_60 : ex_ X d 134 60 [v0, v1] [w0] h Q = ex_ X d 134 62 [v0, v1] [.int 102, w0] h Q := R_bipush (show mx_at 134 60 = some (.bipush 102, 2) by decide +kernel) (by decide)
set_option maxRecDepth 20000 in
theorem i134_62 : ex_ X d 134 62 [v0, v1] [.int y, .int x] h Q = if ¬ x = y then ex_ X d 134 69 [v0, v1] [] h Q else ex_ X d 134 65 [v0, v1] [] h Q := (R_br (show mx_at 134 62 = some (.if_icmp .ne 7, 3) by decide +kernel) rfl rfl).trans mx_ite
set_option maxRecDepth 20000 in
theorem i134_65 : ex_ X d 134 65 [v0, v1] [] h Q = ex_ X d 134 66 [v0, v1] [.int 1] h Q := R_iconst (show mx_at 134 65 = some (.iconst 1, 1) by decide +kernel) (by decide)
set_option maxRecDepth 20000 in
theorem i134_66 : ex_ X d 134 66 [v0, v1] [w0] h Q = ex_ X d 134 90 [v0, v1] [w0] h Q := R_to (show mx_at 134 66 = some (.goto 24, 3) by decide +kernel) rfl rfl
set_option maxRecDepth 20000 in
theorem i134_69 : ex_ X d 134 69 [v0, .int x] [] h Q = ex_ X d 134 70 [v0, .int x] [.int x] h Q := ex_nx (show mx_at 134 69 = some (.iload_n 1, 1) by decide +kernel) rfl
set_option maxRecDepth 20000 in
theorem i134_70 : ex_ X d 134 70 [v0, v1] [w0] h Q = ex_ X d 134 72 [v0, v1] [.int 115, w0] h Q := R_bipush (show mx_at 134 70 = some (.bipush 115, 2) by decide +kernel) (by decide)
set_option maxRecDepth 20000 in
theorem i134_72 : ex_ X d 134 72 [v0, v1] [.int y, .int x] h Q = if ¬ x = y then ex_ X d 134 79 [v0, v1] [] h Q else ex_ X d 134 75 [v0, v1] [] h Q := (R_br (show mx_at 134 72 = some (.if_icmp .ne 7, 3) by decide +kernel) rfl rfl).trans mx_ite
set_option maxRecDepth 20000 in
theorem i134_75 : ex_ X d 134 75 [v0, v1] [] h Q = ex_ X d 134 76 [v0, v1] [.int 2] h Q := R_iconst (show mx_at 134 75 = some (.iconst 2, 1) by decide +kernel) (by decide)
set_option maxRecDepth 20000 in
theorem i134_76 : ex_ X d 134 76 [v0, v1] [w0] h Q = ex_ X d 134 90 [v0, v1] [w0] h Q := R_to (show mx_at 134 76 = some (.goto 14, 3) by decide +kernel) rfl rfl
set_option maxRecDepth 20000 in
theorem i134_79 : ex_ X d 134 79 [v0, .int x] [] h Q = ex_ X d 134 80 [v0, .int x] [.int x] h Q := ex_nx (show mx_at 134 79 = some (.iload_n 1, 1) by decide +kernel) rfl
set_option maxRecDepth 20000 in
theorem i134_80 : ex_ X d 134 80 [v0, v1] [w0] h Q = ex_ X d 134 82 [v0, v1] [.int 116, w0] h Q := R_bipush (show mx_at 134 80 = some (.bipush 116, 2) by decide +kernel) (by decide)
set_option maxRecDepth 20000 in
theorem i134_82 : ex_ X d 134 82 [v0, v1] [.int y, .int x] h Q = if ¬ x = y then ex_ X d 134 89 [v0, v1] [] h Q else ex_ X d 134 85 [v0, v1] [] h Q := (R_br (show mx_at 134 82 = some (.if_icmp .ne 7, 3) by decide +kernel) rfl rfl).trans mx_ite
set_option maxRecDepth 20000 in
theorem i134_85 : ex_ X d 134 85 [v0, v1] [] h Q = ex_ X d 134 86 [v0, v1] [.int 3] h Q := R_iconst (show mx_at 134 85 = some (.iconst 3, 1) by decide +kernel) (by decide)
set_option maxRecDepth 20000 in
theorem i134_86 : ex_ X d 134 86 [v0, v1] [w0] h Q = ex_ X d 134 90 [v0, v1] [w0] h Q := R_to (show mx_at 134 86 = some (.goto 4, 3) by decide +kernel) rfl rfl
set_option maxRecDepth 20000 in
theorem i134_89 : ex_ X d 134 89 [v0, v1] [] h Q = ex_ X d 134 90 [v0, v1] [.int (-1)] h Q := R_iconst (show mx_at 134 89 = some (.iconst (-1), 1) by decide +kernel) (by decide)
set_option maxRecDepth 20000 in
theorem i134_90 : ex_ X d 134 90 [v0, v1] [.int x] h Q = Q (some (.int x)) h := ex_ret (show mx_at 134 90 = some (.ireturn, 1) by decide +kernel) (mx_retI rt134)
theorem i134_e : ev_ X d 134 [.ref a, .int x0] h Q = ex_ X d 134 0 [.ref a, .int x0] [] h Q := by rw [ev_, ml134]; rfl
-- 135 X12_lay
set_option maxRecDepth 20000 in
theorem i135_0 : ex_ X d 135 0 [.ref a, v1] [] h Q = ex_ X d 135 1 [.ref a, v1] [.ref a] h Q := ex_nx (show mx_at 135 0 = some (.aload_n 0, 1) by decide +kernel) rfl
set_option maxRecDepth 20000 in
theorem i135_1 : ex_ X d 135 1 [v0, v1] [.ref a] h Q = (gk_ h a 8 [(12, 0)] = true ∧ ex_ X d 135 4 [v0, v1] [gv_ h a 8] h Q) := R_getf (show mx_at 135 1 = some (.getfield 65, 3) by decide +kernel) (mx_fdo ow135 fd120065)
set_option maxRecDepth 20000 in
theorem i135_4 : ex_ X d 135 4 [v0, v1] [.int x] h Q = if 0 ≤ x then ex_ X d 135 27 [v0, v1] [] h Q else ex_ X d 135 7 [v0, v1] [] h Q := (R_br (show mx_at 135 4 = some (.ifCond .ge 23, 3) by decide +kernel) rfl rfl).trans mx_ite
set_option maxRecDepth 20000 in
theorem i135_7 : ex_ X d 135 7 [.ref a, v1] [] h Q = ex_ X d 135 8 [.ref a, v1] [.ref a] h Q := ex_nx (show mx_at 135 7 = some (.aload_n 0, 1) by decide +kernel) rfl
set_option maxRecDepth 20000 in
theorem i135_8 : ex_ X d 135 8 [v0, v1] [.ref a] h Q = (gk_ h a 12 [(12, 0)] = true ∧ ex_ X d 135 11 [v0, v1] [gv_ h a 12] h Q) := R_getf (show mx_at 135 8 = some (.getfield 25, 3) by decide +kernel) (mx_fdo ow135 fd120025)
set_option maxRecDepth 20000 in
theorem i135_11 : ex_ X d 135 11 [.ref a, v1] [w0] h Q = ex_ X d 135 12 [.ref a, v1] [.ref a, w0] h Q := ex_nx (show mx_at 135 11 = some (.aload_n 0, 1) by decide +kernel) rfl
set_option maxRecDepth 20000 in
theorem i135_12 : ex_ X d 135 12 [v0, v1] [.ref a, w0] h Q = (gk_ h a 13 [(12, 0)] = true ∧ ex_ X d 135 15 [v0, v1] [gv_ h a 13, w0] h Q) := R_getf (show mx_at 135 12 = some (.getfield 79, 3) by decide +kernel) (mx_fdo ow135 fd120079)
set_option maxRecDepth 20000 in
theorem i135_15 : ex_ X d 135 15 [v0, .int x] [w0, w1] h Q = ex_ X d 135 16 [v0, .int x] [.int x, w0, w1] h Q := ex_nx (show mx_at 135 15 = some (.iload_n 1, 1) by decide +kernel) rfl
set_option maxRecDepth 20000 in
theorem i135_16 : ex_ X d 135 16 [v0, v1] [.int x, .int i, .ref a] h Q = (ik_ h a i = true ∧ ex_ X d 135 17 [v0, v1] [] (is_ h a i x) Q) := R_iast (show mx_at 135 16 = some (.iastore, 1) by decide +kernel)
set_option maxRecDepth 20000 in
theorem i135_17 : ex_ X d 135 17 [.ref a, v1] [] h Q = ex_ X d 135 18 [.ref a, v1] [.ref a] h Q := ex_nx (show mx_at 135 17 = some (.aload_n 0, 1) by decide +kernel) rfl
set_option maxRecDepth 20000 in
theorem i135_18 : ex_ X d 135 18 [v0, v1] [.ref a] h Q = ex_ X d 135 19 [v0, v1] [.ref a, .ref a] h Q := ex_nx (show mx_at 135 18 = some (.dup, 1) by decide +kernel) rfl
set_option maxRecDepth 20000 in
theorem i135_19 : ex_ X d 135 19 [v0, v1] [.ref a, w0] h Q = (gk_ h a 13 [(12, 0)] = true ∧ ex_ X d 135 22 [v0, v1] [gv_ h a 13, w0] h Q) := R_getf (show mx_at 135 19 = some (.getfield 79, 3) by decide +kernel) (mx_fdo ow135 fd120079)
set_option maxRecDepth 20000 in
theorem i135_22 : ex_ X d 135 22 [v0, v1] [w0, w1] h Q = ex_ X d 135 23 [v0, v1] [.int 1, w0, w1] h Q := R_iconst (show mx_at 135 22 = some (.iconst 1, 1) by decide +kernel) (by decide)
set_option maxRecDepth 20000 in
theorem i135_23 : ex_ X d 135 23 [v0, v1] [.int y, .int x, w0] h Q = ex_ X d 135 24 [v0, v1] [.int (x + y), w0] h Q := ex_nx (show mx_at 135 23 = some (.iadd, 1) by decide +kernel) rfl
set_option maxRecDepth 20000 in
theorem i135_24 : ex_ X d 135 24 [v0, v1] [w, .ref a] h Q = (pk_ 135 h a 13 w [(12, 0)] = true ∧ ex_ X d 135 27 [v0, v1] [] (pf_ h a 13 w) Q) := R_putf (show mx_at 135 24 = some (.putfield 79, 3) by decide +kernel) (mx_fdo ow135 fd120079)
set_option maxRecDepth 20000 in
theorem i135_27 : ex_ X d 135 27 [v0, v1] [] h Q = Q none h := ex_ret (show mx_at 135 27 = some (.return_, 1) by decide +kernel) (mx_retV rt135)
theorem i135_e : ev_ X d 135 [.ref a, .int x0] h Q = ex_ X d 135 0 [.ref a, .int x0] [] h Q := by rw [ev_, ml135]; rfl
-- 136 X12_either
set_option maxRecDepth 20000 in
theorem i136_0 : ex_ X d 136 0 [.ref a] [] h Q = ex_ X d 136 1 [.ref a] [.ref a] h Q := ex_nx (show mx_at 136 0 = some (.aload_n 0, 1) by decide +kernel) rfl
set_option maxRecDepth 20000 in
theorem i136_1 (hc : co_ h a = some 12) : ex_ X (d + 1) 136 1 [v0] [.ref a] h Q = ev_ X d 137 [.ref a] h (fun r h' => ex_ X (d + 1) 136 4 [v0] (r.toList ++ []) h' Q) := R_vir (show mx_at 136 1 = some (.invokevirtual 82, 3) by decide +kernel) (mx_clk ow136 cc12_82) (Nat.le_of_ble_eq_true rfl) rfl rfl hc rfl (Nat.le_of_ble_eq_true rfl) (Nat.le_of_ble_eq_true rfl) (by rw [ml137]; exact Nat.le_of_ble_eq_true rfl)
set_option maxRecDepth 20000 in
theorem i136_4 : ex_ X d 136 4 [.ref a] [] h Q = ex_ X d 136 5 [.ref a] [.ref a] h Q := ex_nx (show mx_at 136 4 = some (.aload_n 0, 1) by decide +kernel) rfl
set_option maxRecDepth 20000 in
theorem i136_5 : ex_ X d 136 5 [v0] [w0] h Q = ex_ X d 136 7 [v0] [.int 124, w0] h Q := R_bipush (show mx_at 136 5 = some (.bipush 124, 2) by decide +kernel) (by decide)
set_option maxRecDepth 20000 in
theorem i136_7 (hc : co_ h a = some 12) : ex_ X (d + 1) 136 7 [v0] [.int x0, .ref a] h Q = ev_ X d 133 [.ref a, .int x0] h (fun r h' => ex_ X (d + 1) 136 10 [v0] (r.toList ++ []) h' Q) := R_vir (show mx_at 136 7 = some (.invokevirtual 85, 3) by decide +kernel) (mx_clk ow136 cc12_85) (Nat.le_of_ble_eq_true rfl) rfl rfl hc rfl (Nat.le_of_ble_eq_true rfl) (Nat.le_of_ble_eq_true rfl) (by rw [ml133]; exact Nat.le_of_ble_eq_true rfl)
set_option maxRecDepth 20000 in
theorem i136_10 : ex_ X d 136 10 [v0] [.int x] h Q = if x = 0 then ex_ X d 136 27 [v0] [] h Q else ex_ X d 136 13 [v0] [] h Q := (R_br (show mx_at 136 10 = some (.ifCond .eq 17, 3) by decide +kernel) rfl rfl).trans mx_ite
set_option maxRecDepth 20000 in
theorem i136_13 : ex_ X d 136 13 [.ref a] [] h Q = ex_ X d 136 14 [.ref a] [.ref a] h Q := ex_nx (show mx_at 136 13 = some (.aload_n 0, 1) by decide +kernel) rfl
set_option maxRecDepth 20000 in
theorem i136_14 (hc : co_ h a = some 12) : ex_ X (d + 1) 136 14 [v0] [.ref a] h Q = ev_ X d 137 [.ref a] h (fun r h' => ex_ X (d + 1) 136 17 [v0] (r.toList ++ []) h' Q) := R_vir (show mx_at 136 14 = some (.invokevirtual 82, 3) by decide +kernel) (mx_clk ow136 cc12_82) (Nat.le_of_ble_eq_true rfl) rfl rfl hc rfl (Nat.le_of_ble_eq_true rfl) (Nat.le_of_ble_eq_true rfl) (by rw [ml137]; exact Nat.le_of_ble_eq_true rfl)
set_option maxRecDepth 20000 in
theorem i136_17 : ex_ X d 136 17 [.ref a] [] h Q = ex_ X d 136 18 [.ref a] [.ref a] h Q := ex_nx (show mx_at 136 17 = some (.aload_n 0, 1) by decide +kernel) rfl
set_option maxRecDepth 20000 in
theorem i136_18 : ex_ X d 136 18 [v0] [w0] h Q = ex_ X d 136 21 [v0] [.int 20124, w0] h Q := R_sipush (show mx_at 136 18 = some (.sipush 20124, 3) by decide +kernel) (by decide)
set_option maxRecDepth 20000 in
theorem i136_21 (hc : co_ h a = some 12) : ex_ X (d + 1) 136 21 [v0] [.int x0, .ref a] h Q = ev_ X d 135 [.ref a, .int x0] h (fun r h' => ex_ X (d + 1) 136 24 [v0] (r.toList ++ []) h' Q) := R_vir (show mx_at 136 21 = some (.invokevirtual 89, 3) by decide +kernel) (mx_clk ow136 cc12_89) (Nat.le_of_ble_eq_true rfl) rfl rfl hc rfl (Nat.le_of_ble_eq_true rfl) (Nat.le_of_ble_eq_true rfl) (by rw [ml135]; exact Nat.le_of_ble_eq_true rfl)
set_option maxRecDepth 20000 in
theorem i136_24 : ex_ X d 136 24 [v0] [] h Q = ex_ X d 136 4 [v0] [] h Q := R_to (show mx_at 136 24 = some (.goto (-20), 3) by decide +kernel) rfl rfl
set_option maxRecDepth 20000 in
theorem i136_27 : ex_ X d 136 27 [v0] [] h Q = Q none h := ex_ret (show mx_at 136 27 = some (.return_, 1) by decide +kernel) (mx_retV rt136)
theorem i136_e : ev_ X d 136 [.ref a] h Q = ex_ X d 136 0 [.ref a] [] h Q := by rw [ev_, ml136]; rfl
-- 137 X12_both
set_option maxRecDepth 20000 in
theorem i137_0 : ex_ X d 137 0 [.ref a] [] h Q = ex_ X d 137 1 [.ref a] [.ref a] h Q := ex_nx (show mx_at 137 0 = some (.aload_n 0, 1) by decide +kernel) rfl
set_option maxRecDepth 20000 in
theorem i137_1 (hc : co_ h a = some 12) : ex_ X (d + 1) 137 1 [v0] [.ref a] h Q = ev_ X d 138 [.ref a] h (fun r h' => ex_ X (d + 1) 137 4 [v0] (r.toList ++ []) h' Q) := R_vir (show mx_at 137 1 = some (.invokevirtual 93, 3) by decide +kernel) (mx_clk ow137 cc12_93) (Nat.le_of_ble_eq_true rfl) rfl rfl hc rfl (Nat.le_of_ble_eq_true rfl) (Nat.le_of_ble_eq_true rfl) (by rw [ml138]; exact Nat.le_of_ble_eq_true rfl)
set_option maxRecDepth 20000 in
theorem i137_4 : ex_ X d 137 4 [.ref a] [] h Q = ex_ X d 137 5 [.ref a] [.ref a] h Q := ex_nx (show mx_at 137 4 = some (.aload_n 0, 1) by decide +kernel) rfl
set_option maxRecDepth 20000 in
theorem i137_5 : ex_ X d 137 5 [v0] [w0] h Q = ex_ X d 137 7 [v0] [.int 38, w0] h Q := R_bipush (show mx_at 137 5 = some (.bipush 38, 2) by decide +kernel) (by decide)
set_option maxRecDepth 20000 in
theorem i137_7 (hc : co_ h a = some 12) : ex_ X (d + 1) 137 7 [v0] [.int x0, .ref a] h Q = ev_ X d 133 [.ref a, .int x0] h (fun r h' => ex_ X (d + 1) 137 10 [v0] (r.toList ++ []) h' Q) := R_vir (show mx_at 137 7 = some (.invokevirtual 85, 3) by decide +kernel) (mx_clk ow137 cc12_85) (Nat.le_of_ble_eq_true rfl) rfl rfl hc rfl (Nat.le_of_ble_eq_true rfl) (Nat.le_of_ble_eq_true rfl) (by rw [ml133]; exact Nat.le_of_ble_eq_true rfl)
set_option maxRecDepth 20000 in
theorem i137_10 : ex_ X d 137 10 [v0] [.int x] h Q = if x = 0 then ex_ X d 137 27 [v0] [] h Q else ex_ X d 137 13 [v0] [] h Q := (R_br (show mx_at 137 10 = some (.ifCond .eq 17, 3) by decide +kernel) rfl rfl).trans mx_ite
set_option maxRecDepth 20000 in
theorem i137_13 : ex_ X d 137 13 [.ref a] [] h Q = ex_ X d 137 14 [.ref a] [.ref a] h Q := ex_nx (show mx_at 137 13 = some (.aload_n 0, 1) by decide +kernel) rfl
set_option maxRecDepth 20000 in
theorem i137_14 (hc : co_ h a = some 12) : ex_ X (d + 1) 137 14 [v0] [.ref a] h Q = ev_ X d 138 [.ref a] h (fun r h' => ex_ X (d + 1) 137 17 [v0] (r.toList ++ []) h' Q) := R_vir (show mx_at 137 14 = some (.invokevirtual 93, 3) by decide +kernel) (mx_clk ow137 cc12_93) (Nat.le_of_ble_eq_true rfl) rfl rfl hc rfl (Nat.le_of_ble_eq_true rfl) (Nat.le_of_ble_eq_true rfl) (by rw [ml138]; exact Nat.le_of_ble_eq_true rfl)
set_option maxRecDepth 20000 in
theorem i137_17 : ex_ X d 137 17 [.ref a] [] h Q = ex_ X d 137 18 [.ref a] [.ref a] h Q := ex_nx (show mx_at 137 17 = some (.aload_n 0, 1) by decide +kernel) rfl
set_option maxRecDepth 20000 in
theorem i137_18 : ex_ X d 137 18 [v0] [w0] h Q = ex_ X d 137 21 [v0] [.int 20038, w0] h Q := R_sipush (show mx_at 137 18 = some (.sipush 20038, 3) by decide +kernel) (by decide)
set_option maxRecDepth 20000 in
theorem i137_21 (hc : co_ h a = some 12) : ex_ X (d + 1) 137 21 [v0] [.int x0, .ref a] h Q = ev_ X d 135 [.ref a, .int x0] h (fun r h' => ex_ X (d + 1) 137 24 [v0] (r.toList ++ []) h' Q) := R_vir (show mx_at 137 21 = some (.invokevirtual 89, 3) by decide +kernel) (mx_clk ow137 cc12_89) (Nat.le_of_ble_eq_true rfl) rfl rfl hc rfl (Nat.le_of_ble_eq_true rfl) (Nat.le_of_ble_eq_true rfl) (by rw [ml135]; exact Nat.le_of_ble_eq_true rfl)
set_option maxRecDepth 20000 in
theorem i137_24 : ex_ X d 137 24 [v0] [] h Q = ex_ X d 137 4 [v0] [] h Q := R_to (show mx_at 137 24 = some (.goto (-20), 3) by decide +kernel) rfl rfl
set_option maxRecDepth 20000 in
theorem i137_27 : ex_ X d 137 27 [v0] [] h Q = Q none h := ex_ret (show mx_at 137 27 = some (.return_, 1) by decide +kernel) (mx_retV rt137)
theorem i137_e : ev_ X d 137 [.ref a] h Q = ex_ X d 137 0 [.ref a] [] h Q := by rw [ev_, ml137]; rfl
-- 138 X12_compared
set_option maxRecDepth 20000 in
theorem i138_0 : ex_ X d 138 0 [.ref a, v1] [] h Q = ex_ X d 138 1 [.ref a, v1] [.ref a] h Q := ex_nx (show mx_at 138 0 = some (.aload_n 0, 1) by decide +kernel) rfl
set_option maxRecDepth 20000 in
theorem i138_1 (hc : co_ h a = some 12) : ex_ X (d + 1) 138 1 [v0, v1] [.ref a] h Q = ev_ X d 139 [.ref a] h (fun r h' => ex_ X (d + 1) 138 4 [v0, v1] (r.toList ++ []) h' Q) := R_vir (show mx_at 138 1 = some (.invokevirtual 96, 3) by decide +kernel) (mx_clk ow138 cc12_96) (Nat.le_of_ble_eq_true rfl) rfl rfl hc rfl (Nat.le_of_ble_eq_true rfl) (Nat.le_of_ble_eq_true rfl) (by rw [ml139]; exact Nat.le_of_ble_eq_true rfl)
set_option maxRecDepth 20000 in
theorem i138_4 : ex_ X d 138 4 [.ref a, v1] [] h Q = ex_ X d 138 5 [.ref a, v1] [.ref a] h Q := ex_nx (show mx_at 138 4 = some (.aload_n 0, 1) by decide +kernel) rfl
set_option maxRecDepth 20000 in
theorem i138_5 (hc : co_ h a = some 12) : ex_ X (d + 1) 138 5 [v0, v1] [.ref a] h Q = ev_ X d 131 [.ref a] h (fun r h' => ex_ X (d + 1) 138 8 [v0, v1] (r.toList ++ []) h' Q) := R_vir (show mx_at 138 5 = some (.invokevirtual 71, 3) by decide +kernel) (mx_clk ow138 cc12_71) (Nat.le_of_ble_eq_true rfl) rfl rfl hc rfl (Nat.le_of_ble_eq_true rfl) (Nat.le_of_ble_eq_true rfl) (by rw [ml131]; exact Nat.le_of_ble_eq_true rfl)
set_option maxRecDepth 20000 in
theorem i138_8 : ex_ X d 138 8 [v0, v1] [.int x] h Q = (mx_nl v0 = true ∧ ex_ X d 138 9 [v0, .int x] [] h Q) := mx_t1 (R_st (ok := mx_isI) (n := 1) (w := 1) (show mx_at 138 8 = some (.istore_n 1, 1) by decide +kernel) (fun _ _ => rfl) (Nat.le_of_ble_eq_true rfl)) rfl
set_option maxRecDepth 20000 in
theorem i138_9 : ex_ X d 138 9 [v0, .int x] [] h Q = ex_ X d 138 10 [v0, .int x] [.int x] h Q := ex_nx (show mx_at 138 9 = some (.iload_n 1, 1) by decide +kernel) rfl
set_option maxRecDepth 20000 in
theorem i138_10 : ex_ X d 138 10 [v0, v1] [w0] h Q = ex_ X d 138 12 [v0, v1] [.int 60, w0] h Q := R_bipush (show mx_at 138 10 = some (.bipush 60, 2) by decide +kernel) (by decide)
set_option maxRecDepth 20000 in
theorem i138_12 : ex_ X d 138 12 [v0, v1] [.int y, .int x] h Q = if x = y then ex_ X d 138 27 [v0, v1] [] h Q else ex_ X d 138 15 [v0, v1] [] h Q := (R_br (show mx_at 138 12 = some (.if_icmp .eq 15, 3) by decide +kernel) rfl rfl).trans mx_ite
set_option maxRecDepth 20000 in
theorem i138_15 : ex_ X d 138 15 [v0, .int x] [] h Q = ex_ X d 138 16 [v0, .int x] [.int x] h Q := ex_nx (show mx_at 138 15 = some (.iload_n 1, 1) by decide +kernel) rfl
set_option maxRecDepth 20000 in
theorem i138_16 : ex_ X d 138 16 [v0, v1] [w0] h Q = ex_ X d 138 18 [v0, v1] [.int 61, w0] h Q := R_bipush (show mx_at 138 16 = some (.bipush 61, 2) by decide +kernel) (by decide)
set_option maxRecDepth 20000 in
theorem i138_18 : ex_ X d 138 18 [v0, v1] [.int y, .int x] h Q = if x = y then ex_ X d 138 27 [v0, v1] [] h Q else ex_ X d 138 21 [v0, v1] [] h Q := (R_br (show mx_at 138 18 = some (.if_icmp .eq 9, 3) by decide +kernel) rfl rfl).trans mx_ite
set_option maxRecDepth 20000 in
theorem i138_21 : ex_ X d 138 21 [v0, .int x] [] h Q = ex_ X d 138 22 [v0, .int x] [.int x] h Q := ex_nx (show mx_at 138 21 = some (.iload_n 1, 1) by decide +kernel) rfl
set_option maxRecDepth 20000 in
theorem i138_22 : ex_ X d 138 22 [v0, v1] [w0] h Q = ex_ X d 138 24 [v0, v1] [.int 62, w0] h Q := R_bipush (show mx_at 138 22 = some (.bipush 62, 2) by decide +kernel) (by decide)
set_option maxRecDepth 20000 in
theorem i138_24 : ex_ X d 138 24 [v0, v1] [.int y, .int x] h Q = if ¬ x = y then ex_ X d 138 50 [v0, v1] [] h Q else ex_ X d 138 27 [v0, v1] [] h Q := (R_br (show mx_at 138 24 = some (.if_icmp .ne 26, 3) by decide +kernel) rfl rfl).trans mx_ite
set_option maxRecDepth 20000 in
theorem i138_27 : ex_ X d 138 27 [.ref a, v1] [] h Q = ex_ X d 138 28 [.ref a, v1] [.ref a] h Q := ex_nx (show mx_at 138 27 = some (.aload_n 0, 1) by decide +kernel) rfl
set_option maxRecDepth 20000 in
theorem i138_28 : ex_ X d 138 28 [v0, v1] [.ref a] h Q = ex_ X d 138 29 [v0, v1] [.ref a, .ref a] h Q := ex_nx (show mx_at 138 28 = some (.dup, 1) by decide +kernel) rfl
set_option maxRecDepth 20000 in
theorem i138_29 : ex_ X d 138 29 [v0, v1] [.ref a, w0] h Q = (gk_ h a 6 [(12, 0)] = true ∧ ex_ X d 138 32 [v0, v1] [gv_ h a 6, w0] h Q) := R_getf (show mx_at 138 29 = some (.getfield 58, 3) by decide +kernel) (mx_fdo ow138 fd120058)
set_option maxRecDepth 20000 in
theorem i138_32 : ex_ X d 138 32 [v0, v1] [w0, w1] h Q = ex_ X d 138 33 [v0, v1] [.int 1, w0, w1] h Q := R_iconst (show mx_at 138 32 = some (.iconst 1, 1) by decide +kernel) (by decide)
set_option maxRecDepth 20000 in
theorem i138_33 : ex_ X d 138 33 [v0, v1] [.int y, .int x, w0] h Q = ex_ X d 138 34 [v0, v1] [.int (x + y), w0] h Q := ex_nx (show mx_at 138 33 = some (.iadd, 1) by decide +kernel) rfl
set_option maxRecDepth 20000 in
theorem i138_34 : ex_ X d 138 34 [v0, v1] [w, .ref a] h Q = (pk_ 138 h a 6 w [(12, 0)] = true ∧ ex_ X d 138 37 [v0, v1] [] (pf_ h a 6 w) Q) := R_putf (show mx_at 138 34 = some (.putfield 58, 3) by decide +kernel) (mx_fdo ow138 fd120058)
set_option maxRecDepth 20000 in
theorem i138_37 : ex_ X d 138 37 [.ref a, v1] [] h Q = ex_ X d 138 38 [.ref a, v1] [.ref a] h Q := ex_nx (show mx_at 138 37 = some (.aload_n 0, 1) by decide +kernel) rfl
set_option maxRecDepth 20000 in
theorem i138_38 (hc : co_ h a = some 12) : ex_ X (d + 1) 138 38 [v0, v1] [.ref a] h Q = ev_ X d 139 [.ref a] h (fun r h' => ex_ X (d + 1) 138 41 [v0, v1] (r.toList ++ []) h' Q) := R_vir (show mx_at 138 38 = some (.invokevirtual 96, 3) by decide +kernel) (mx_clk ow138 cc12_96) (Nat.le_of_ble_eq_true rfl) rfl rfl hc rfl (Nat.le_of_ble_eq_true rfl) (Nat.le_of_ble_eq_true rfl) (by rw [ml139]; exact Nat.le_of_ble_eq_true rfl)
set_option maxRecDepth 20000 in
theorem i138_41 : ex_ X d 138 41 [.ref a, v1] [] h Q = ex_ X d 138 42 [.ref a, v1] [.ref a] h Q := ex_nx (show mx_at 138 41 = some (.aload_n 0, 1) by decide +kernel) rfl
set_option maxRecDepth 20000 in
theorem i138_42 : ex_ X d 138 42 [v0, v1] [w0] h Q = ex_ X d 138 45 [v0, v1] [.int 20000, w0] h Q := R_sipush (show mx_at 138 42 = some (.sipush 20000, 3) by decide +kernel) (by decide)
set_option maxRecDepth 20000 in
theorem i138_45 : ex_ X d 138 45 [v0, .int x] [w0, w1] h Q = ex_ X d 138 46 [v0, .int x] [.int x, w0, w1] h Q := ex_nx (show mx_at 138 45 = some (.iload_n 1, 1) by decide +kernel) rfl
set_option maxRecDepth 20000 in
theorem i138_46 : ex_ X d 138 46 [v0, v1] [.int y, .int x, w0] h Q = ex_ X d 138 47 [v0, v1] [.int (x + y), w0] h Q := ex_nx (show mx_at 138 46 = some (.iadd, 1) by decide +kernel) rfl
set_option maxRecDepth 20000 in
theorem i138_47 (hc : co_ h a = some 12) : ex_ X (d + 1) 138 47 [v0, v1] [.int x0, .ref a] h Q = ev_ X d 135 [.ref a, .int x0] h (fun r h' => ex_ X (d + 1) 138 50 [v0, v1] (r.toList ++ []) h' Q) := R_vir (show mx_at 138 47 = some (.invokevirtual 89, 3) by decide +kernel) (mx_clk ow138 cc12_89) (Nat.le_of_ble_eq_true rfl) rfl rfl hc rfl (Nat.le_of_ble_eq_true rfl) (Nat.le_of_ble_eq_true rfl) (by rw [ml135]; exact Nat.le_of_ble_eq_true rfl)
set_option maxRecDepth 20000 in
theorem i138_50 : ex_ X d 138 50 [v0, v1] [] h Q = Q none h := ex_ret (show mx_at 138 50 = some (.return_, 1) by decide +kernel) (mx_retV rt138)
theorem i138_e : ev_ X d 138 [.ref a] h Q = ex_ X d 138 0 [.ref a, .double 0] [] h Q := by rw [ev_, ml138]; rfl
-- 139 X12_sum
set_option maxRecDepth 20000 in
theorem i139_0 : ex_ X d 139 0 [.ref a, v1] [] h Q = ex_ X d 139 1 [.ref a, v1] [.ref a] h Q := ex_nx (show mx_at 139 0 = some (.aload_n 0, 1) by decide +kernel) rfl
set_option maxRecDepth 20000 in
theorem i139_1 (hc : co_ h a = some 12) : ex_ X (d + 1) 139 1 [v0, v1] [.ref a] h Q = ev_ X d 140 [.ref a] h (fun r h' => ex_ X (d + 1) 139 4 [v0, v1] (r.toList ++ []) h' Q) := R_vir (show mx_at 139 1 = some (.invokevirtual 99, 3) by decide +kernel) (mx_clk ow139 cc12_99) (Nat.le_of_ble_eq_true rfl) rfl rfl hc rfl (Nat.le_of_ble_eq_true rfl) (Nat.le_of_ble_eq_true rfl) (by rw [ml140]; exact Nat.le_of_ble_eq_true rfl)
set_option maxRecDepth 20000 in
theorem i139_4 : ex_ X d 139 4 [.ref a, v1] [] h Q = ex_ X d 139 5 [.ref a, v1] [.ref a] h Q := ex_nx (show mx_at 139 4 = some (.aload_n 0, 1) by decide +kernel) rfl
set_option maxRecDepth 20000 in
theorem i139_5 (hc : co_ h a = some 12) : ex_ X (d + 1) 139 5 [v0, v1] [.ref a] h Q = ev_ X d 131 [.ref a] h (fun r h' => ex_ X (d + 1) 139 8 [v0, v1] (r.toList ++ []) h' Q) := R_vir (show mx_at 139 5 = some (.invokevirtual 71, 3) by decide +kernel) (mx_clk ow139 cc12_71) (Nat.le_of_ble_eq_true rfl) rfl rfl hc rfl (Nat.le_of_ble_eq_true rfl) (Nat.le_of_ble_eq_true rfl) (by rw [ml131]; exact Nat.le_of_ble_eq_true rfl)
set_option maxRecDepth 20000 in
theorem i139_8 : ex_ X d 139 8 [v0, v1] [w0] h Q = ex_ X d 139 10 [v0, v1] [.int 43, w0] h Q := R_bipush (show mx_at 139 8 = some (.bipush 43, 2) by decide +kernel) (by decide)
set_option maxRecDepth 20000 in
theorem i139_10 : ex_ X d 139 10 [v0, v1] [.int y, .int x] h Q = if x = y then ex_ X d 139 22 [v0, v1] [] h Q else ex_ X d 139 13 [v0, v1] [] h Q := (R_br (show mx_at 139 10 = some (.if_icmp .eq 12, 3) by decide +kernel) rfl rfl).trans mx_ite
set_option maxRecDepth 20000 in
theorem i139_13 : ex_ X d 139 13 [.ref a, v1] [] h Q = ex_ X d 139 14 [.ref a, v1] [.ref a] h Q := ex_nx (show mx_at 139 13 = some (.aload_n 0, 1) by decide +kernel) rfl
set_option maxRecDepth 20000 in
theorem i139_14 (hc : co_ h a = some 12) : ex_ X (d + 1) 139 14 [v0, v1] [.ref a] h Q = ev_ X d 131 [.ref a] h (fun r h' => ex_ X (d + 1) 139 17 [v0, v1] (r.toList ++ []) h' Q) := R_vir (show mx_at 139 14 = some (.invokevirtual 71, 3) by decide +kernel) (mx_clk ow139 cc12_71) (Nat.le_of_ble_eq_true rfl) rfl rfl hc rfl (Nat.le_of_ble_eq_true rfl) (Nat.le_of_ble_eq_true rfl) (by rw [ml131]; exact Nat.le_of_ble_eq_true rfl)
set_option maxRecDepth 20000 in
theorem i139_17 : ex_ X d 139 17 [v0, v1] [w0] h Q = ex_ X d 139 19 [v0, v1] [.int 45, w0] h Q := R_bipush (show mx_at 139 17 = some (.bipush 45, 2) by decide +kernel) (by decide)
set_option maxRecDepth 20000 in
theorem i139_19 : ex_ X d 139 19 [v0, v1] [.int y, .int x] h Q = if ¬ x = y then ex_ X d 139 53 [v0, v1] [] h Q else ex_ X d 139 22 [v0, v1] [] h Q := (R_br (show mx_at 139 19 = some (.if_icmp .ne 34, 3) by decide +kernel) rfl rfl).trans mx_ite
set_option maxRecDepth 20000 in
theorem i139_22 : ex_ X d 139 22 [.ref a, v1] [] h Q = ex_ X d 139 23 [.ref a, v1] [.ref a] h Q := ex_nx (show mx_at 139 22 = some (.aload_n 0, 1) by decide +kernel) rfl
set_option maxRecDepth 20000 in
theorem i139_23 (hc : co_ h a = some 12) : ex_ X (d + 1) 139 23 [v0, v1] [.ref a] h Q = ev_ X d 131 [.ref a] h (fun r h' => ex_ X (d + 1) 139 26 [v0, v1] (r.toList ++ []) h' Q) := R_vir (show mx_at 139 23 = some (.invokevirtual 71, 3) by decide +kernel) (mx_clk ow139 cc12_71) (Nat.le_of_ble_eq_true rfl) rfl rfl hc rfl (Nat.le_of_ble_eq_true rfl) (Nat.le_of_ble_eq_true rfl) (by rw [ml131]; exact Nat.le_of_ble_eq_true rfl)
set_option maxRecDepth 20000 in
theorem i139_26 : ex_ X d 139 26 [v0, v1] [.int x] h Q = (mx_nl v0 = true ∧ ex_ X d 139 27 [v0, .int x] [] h Q) := mx_t1 (R_st (ok := mx_isI) (n := 1) (w := 1) (show mx_at 139 26 = some (.istore_n 1, 1) by decide +kernel) (fun _ _ => rfl) (Nat.le_of_ble_eq_true rfl)) rfl
set_option maxRecDepth 20000 in
theorem i139_27 : ex_ X d 139 27 [.ref a, v1] [] h Q = ex_ X d 139 28 [.ref a, v1] [.ref a] h Q := ex_nx (show mx_at 139 27 = some (.aload_n 0, 1) by decide +kernel) rfl
set_option maxRecDepth 20000 in
theorem i139_28 : ex_ X d 139 28 [v0, v1] [.ref a] h Q = ex_ X d 139 29 [v0, v1] [.ref a, .ref a] h Q := ex_nx (show mx_at 139 28 = some (.dup, 1) by decide +kernel) rfl
set_option maxRecDepth 20000 in
theorem i139_29 : ex_ X d 139 29 [v0, v1] [.ref a, w0] h Q = (gk_ h a 6 [(12, 0)] = true ∧ ex_ X d 139 32 [v0, v1] [gv_ h a 6, w0] h Q) := R_getf (show mx_at 139 29 = some (.getfield 58, 3) by decide +kernel) (mx_fdo ow139 fd120058)
set_option maxRecDepth 20000 in
theorem i139_32 : ex_ X d 139 32 [v0, v1] [w0, w1] h Q = ex_ X d 139 33 [v0, v1] [.int 1, w0, w1] h Q := R_iconst (show mx_at 139 32 = some (.iconst 1, 1) by decide +kernel) (by decide)
set_option maxRecDepth 20000 in
theorem i139_33 : ex_ X d 139 33 [v0, v1] [.int y, .int x, w0] h Q = ex_ X d 139 34 [v0, v1] [.int (x + y), w0] h Q := ex_nx (show mx_at 139 33 = some (.iadd, 1) by decide +kernel) rfl
set_option maxRecDepth 20000 in
theorem i139_34 : ex_ X d 139 34 [v0, v1] [w, .ref a] h Q = (pk_ 139 h a 6 w [(12, 0)] = true ∧ ex_ X d 139 37 [v0, v1] [] (pf_ h a 6 w) Q) := R_putf (show mx_at 139 34 = some (.putfield 58, 3) by decide +kernel) (mx_fdo ow139 fd120058)
set_option maxRecDepth 20000 in
theorem i139_37 : ex_ X d 139 37 [.ref a, v1] [] h Q = ex_ X d 139 38 [.ref a, v1] [.ref a] h Q := ex_nx (show mx_at 139 37 = some (.aload_n 0, 1) by decide +kernel) rfl
set_option maxRecDepth 20000 in
theorem i139_38 (hc : co_ h a = some 12) : ex_ X (d + 1) 139 38 [v0, v1] [.ref a] h Q = ev_ X d 140 [.ref a] h (fun r h' => ex_ X (d + 1) 139 41 [v0, v1] (r.toList ++ []) h' Q) := R_vir (show mx_at 139 38 = some (.invokevirtual 99, 3) by decide +kernel) (mx_clk ow139 cc12_99) (Nat.le_of_ble_eq_true rfl) rfl rfl hc rfl (Nat.le_of_ble_eq_true rfl) (Nat.le_of_ble_eq_true rfl) (by rw [ml140]; exact Nat.le_of_ble_eq_true rfl)
set_option maxRecDepth 20000 in
theorem i139_41 : ex_ X d 139 41 [.ref a, v1] [] h Q = ex_ X d 139 42 [.ref a, v1] [.ref a] h Q := ex_nx (show mx_at 139 41 = some (.aload_n 0, 1) by decide +kernel) rfl
set_option maxRecDepth 20000 in
theorem i139_42 : ex_ X d 139 42 [v0, v1] [w0] h Q = ex_ X d 139 45 [v0, v1] [.int 20000, w0] h Q := R_sipush (show mx_at 139 42 = some (.sipush 20000, 3) by decide +kernel) (by decide)
set_option maxRecDepth 20000 in
theorem i139_45 : ex_ X d 139 45 [v0, .int x] [w0, w1] h Q = ex_ X d 139 46 [v0, .int x] [.int x, w0, w1] h Q := ex_nx (show mx_at 139 45 = some (.iload_n 1, 1) by decide +kernel) rfl
set_option maxRecDepth 20000 in
theorem i139_46 : ex_ X d 139 46 [v0, v1] [.int y, .int x, w0] h Q = ex_ X d 139 47 [v0, v1] [.int (x + y), w0] h Q := ex_nx (show mx_at 139 46 = some (.iadd, 1) by decide +kernel) rfl
set_option maxRecDepth 20000 in
theorem i139_47 (hc : co_ h a = some 12) : ex_ X (d + 1) 139 47 [v0, v1] [.int x0, .ref a] h Q = ev_ X d 135 [.ref a, .int x0] h (fun r h' => ex_ X (d + 1) 139 50 [v0, v1] (r.toList ++ []) h' Q) := R_vir (show mx_at 139 47 = some (.invokevirtual 89, 3) by decide +kernel) (mx_clk ow139 cc12_89) (Nat.le_of_ble_eq_true rfl) rfl rfl hc rfl (Nat.le_of_ble_eq_true rfl) (Nat.le_of_ble_eq_true rfl) (by rw [ml135]; exact Nat.le_of_ble_eq_true rfl)
set_option maxRecDepth 20000 in
theorem i139_50 : ex_ X d 139 50 [v0, v1] [] h Q = ex_ X d 139 4 [v0, v1] [] h Q := R_to (show mx_at 139 50 = some (.goto (-46), 3) by decide +kernel) rfl rfl
set_option maxRecDepth 20000 in
theorem i139_53 : ex_ X d 139 53 [v0, v1] [] h Q = Q none h := ex_ret (show mx_at 139 53 = some (.return_, 1) by decide +kernel) (mx_retV rt139)
theorem i139_e : ev_ X d 139 [.ref a] h Q = ex_ X d 139 0 [.ref a, .double 0] [] h Q := by rw [ev_, ml139]; rfl
-- 140 X12_product
set_option maxRecDepth 20000 in
theorem i140_0 : ex_ X d 140 0 [.ref a, v1] [] h Q = ex_ X d 140 1 [.ref a, v1] [.ref a] h Q := ex_nx (show mx_at 140 0 = some (.aload_n 0, 1) by decide +kernel) rfl
set_option maxRecDepth 20000 in
theorem i140_1 (hc : co_ h a = some 12) : ex_ X (d + 1) 140 1 [v0, v1] [.ref a] h Q = ev_ X d 142 [.ref a] h (fun r h' => ex_ X (d + 1) 140 4 [v0, v1] (r.toList ++ []) h' Q) := R_vir (show mx_at 140 1 = some (.invokevirtual 102, 3) by decide +kernel) (mx_clk ow140 cc12_102) (Nat.le_of_ble_eq_true rfl) rfl rfl hc rfl (Nat.le_of_ble_eq_true rfl) (Nat.le_of_ble_eq_true rfl) (by rw [ml142]; exact Nat.le_of_ble_eq_true rfl)
set_option maxRecDepth 20000 in
theorem i140_4 : ex_ X d 140 4 [.ref a, v1] [] h Q = ex_ X d 140 5 [.ref a, v1] [.ref a] h Q := ex_nx (show mx_at 140 4 = some (.aload_n 0, 1) by decide +kernel) rfl
set_option maxRecDepth 20000 in
theorem i140_5 (hc : co_ h a = some 12) : ex_ X (d + 1) 140 5 [v0, v1] [.ref a] h Q = ev_ X d 131 [.ref a] h (fun r h' => ex_ X (d + 1) 140 8 [v0, v1] (r.toList ++ []) h' Q) := R_vir (show mx_at 140 5 = some (.invokevirtual 71, 3) by decide +kernel) (mx_clk ow140 cc12_71) (Nat.le_of_ble_eq_true rfl) rfl rfl hc rfl (Nat.le_of_ble_eq_true rfl) (Nat.le_of_ble_eq_true rfl) (by rw [ml131]; exact Nat.le_of_ble_eq_true rfl)
set_option maxRecDepth 20000 in
theorem i140_8 : ex_ X d 140 8 [v0, v1] [w0] h Q = ex_ X d 140 10 [v0, v1] [.int 42, w0] h Q := R_bipush (show mx_at 140 8 = some (.bipush 42, 2) by decide +kernel) (by decide)
set_option maxRecDepth 20000 in
theorem i140_10 : ex_ X d 140 10 [v0, v1] [.int y, .int x] h Q = if x = y then ex_ X d 140 31 [v0, v1] [] h Q else ex_ X d 140 13 [v0, v1] [] h Q := (R_br (show mx_at 140 10 = some (.if_icmp .eq 21, 3) by decide +kernel) rfl rfl).trans mx_ite
set_option maxRecDepth 20000 in
theorem i140_13 : ex_ X d 140 13 [.ref a, v1] [] h Q = ex_ X d 140 14 [.ref a, v1] [.ref a] h Q := ex_nx (show mx_at 140 13 = some (.aload_n 0, 1) by decide +kernel) rfl
set_option maxRecDepth 20000 in
theorem i140_14 (hc : co_ h a = some 12) : ex_ X (d + 1) 140 14 [v0, v1] [.ref a] h Q = ev_ X d 131 [.ref a] h (fun r h' => ex_ X (d + 1) 140 17 [v0, v1] (r.toList ++ []) h' Q) := R_vir (show mx_at 140 14 = some (.invokevirtual 71, 3) by decide +kernel) (mx_clk ow140 cc12_71) (Nat.le_of_ble_eq_true rfl) rfl rfl hc rfl (Nat.le_of_ble_eq_true rfl) (Nat.le_of_ble_eq_true rfl) (by rw [ml131]; exact Nat.le_of_ble_eq_true rfl)
set_option maxRecDepth 20000 in
theorem i140_17 : ex_ X d 140 17 [v0, v1] [w0] h Q = ex_ X d 140 19 [v0, v1] [.int 47, w0] h Q := R_bipush (show mx_at 140 17 = some (.bipush 47, 2) by decide +kernel) (by decide)
set_option maxRecDepth 20000 in
theorem i140_19 : ex_ X d 140 19 [v0, v1] [.int y, .int x] h Q = if x = y then ex_ X d 140 31 [v0, v1] [] h Q else ex_ X d 140 22 [v0, v1] [] h Q := (R_br (show mx_at 140 19 = some (.if_icmp .eq 12, 3) by decide +kernel) rfl rfl).trans mx_ite
set_option maxRecDepth 20000 in
theorem i140_22 : ex_ X d 140 22 [.ref a, v1] [] h Q = ex_ X d 140 23 [.ref a, v1] [.ref a] h Q := ex_nx (show mx_at 140 22 = some (.aload_n 0, 1) by decide +kernel) rfl
set_option maxRecDepth 20000 in
theorem i140_23 (hc : co_ h a = some 12) : ex_ X (d + 1) 140 23 [v0, v1] [.ref a] h Q = ev_ X d 131 [.ref a] h (fun r h' => ex_ X (d + 1) 140 26 [v0, v1] (r.toList ++ []) h' Q) := R_vir (show mx_at 140 23 = some (.invokevirtual 71, 3) by decide +kernel) (mx_clk ow140 cc12_71) (Nat.le_of_ble_eq_true rfl) rfl rfl hc rfl (Nat.le_of_ble_eq_true rfl) (Nat.le_of_ble_eq_true rfl) (by rw [ml131]; exact Nat.le_of_ble_eq_true rfl)
set_option maxRecDepth 20000 in
theorem i140_26 : ex_ X d 140 26 [v0, v1] [w0] h Q = ex_ X d 140 28 [v0, v1] [.int 37, w0] h Q := R_bipush (show mx_at 140 26 = some (.bipush 37, 2) by decide +kernel) (by decide)
set_option maxRecDepth 20000 in
theorem i140_28 : ex_ X d 140 28 [v0, v1] [.int y, .int x] h Q = if ¬ x = y then ex_ X d 140 62 [v0, v1] [] h Q else ex_ X d 140 31 [v0, v1] [] h Q := (R_br (show mx_at 140 28 = some (.if_icmp .ne 34, 3) by decide +kernel) rfl rfl).trans mx_ite
set_option maxRecDepth 20000 in
theorem i140_31 : ex_ X d 140 31 [.ref a, v1] [] h Q = ex_ X d 140 32 [.ref a, v1] [.ref a] h Q := ex_nx (show mx_at 140 31 = some (.aload_n 0, 1) by decide +kernel) rfl
set_option maxRecDepth 20000 in
theorem i140_32 (hc : co_ h a = some 12) : ex_ X (d + 1) 140 32 [v0, v1] [.ref a] h Q = ev_ X d 131 [.ref a] h (fun r h' => ex_ X (d + 1) 140 35 [v0, v1] (r.toList ++ []) h' Q) := R_vir (show mx_at 140 32 = some (.invokevirtual 71, 3) by decide +kernel) (mx_clk ow140 cc12_71) (Nat.le_of_ble_eq_true rfl) rfl rfl hc rfl (Nat.le_of_ble_eq_true rfl) (Nat.le_of_ble_eq_true rfl) (by rw [ml131]; exact Nat.le_of_ble_eq_true rfl)
set_option maxRecDepth 20000 in
theorem i140_35 : ex_ X d 140 35 [v0, v1] [.int x] h Q = (mx_nl v0 = true ∧ ex_ X d 140 36 [v0, .int x] [] h Q) := mx_t1 (R_st (ok := mx_isI) (n := 1) (w := 1) (show mx_at 140 35 = some (.istore_n 1, 1) by decide +kernel) (fun _ _ => rfl) (Nat.le_of_ble_eq_true rfl)) rfl
set_option maxRecDepth 20000 in
theorem i140_36 : ex_ X d 140 36 [.ref a, v1] [] h Q = ex_ X d 140 37 [.ref a, v1] [.ref a] h Q := ex_nx (show mx_at 140 36 = some (.aload_n 0, 1) by decide +kernel) rfl
set_option maxRecDepth 20000 in
theorem i140_37 : ex_ X d 140 37 [v0, v1] [.ref a] h Q = ex_ X d 140 38 [v0, v1] [.ref a, .ref a] h Q := ex_nx (show mx_at 140 37 = some (.dup, 1) by decide +kernel) rfl
set_option maxRecDepth 20000 in
theorem i140_38 : ex_ X d 140 38 [v0, v1] [.ref a, w0] h Q = (gk_ h a 6 [(12, 0)] = true ∧ ex_ X d 140 41 [v0, v1] [gv_ h a 6, w0] h Q) := R_getf (show mx_at 140 38 = some (.getfield 58, 3) by decide +kernel) (mx_fdo ow140 fd120058)
set_option maxRecDepth 20000 in
theorem i140_41 : ex_ X d 140 41 [v0, v1] [w0, w1] h Q = ex_ X d 140 42 [v0, v1] [.int 1, w0, w1] h Q := R_iconst (show mx_at 140 41 = some (.iconst 1, 1) by decide +kernel) (by decide)
set_option maxRecDepth 20000 in
theorem i140_42 : ex_ X d 140 42 [v0, v1] [.int y, .int x, w0] h Q = ex_ X d 140 43 [v0, v1] [.int (x + y), w0] h Q := ex_nx (show mx_at 140 42 = some (.iadd, 1) by decide +kernel) rfl
set_option maxRecDepth 20000 in
theorem i140_43 : ex_ X d 140 43 [v0, v1] [w, .ref a] h Q = (pk_ 140 h a 6 w [(12, 0)] = true ∧ ex_ X d 140 46 [v0, v1] [] (pf_ h a 6 w) Q) := R_putf (show mx_at 140 43 = some (.putfield 58, 3) by decide +kernel) (mx_fdo ow140 fd120058)
set_option maxRecDepth 20000 in
theorem i140_46 : ex_ X d 140 46 [.ref a, v1] [] h Q = ex_ X d 140 47 [.ref a, v1] [.ref a] h Q := ex_nx (show mx_at 140 46 = some (.aload_n 0, 1) by decide +kernel) rfl
set_option maxRecDepth 20000 in
theorem i140_47 (hc : co_ h a = some 12) : ex_ X (d + 1) 140 47 [v0, v1] [.ref a] h Q = ev_ X d 142 [.ref a] h (fun r h' => ex_ X (d + 1) 140 50 [v0, v1] (r.toList ++ []) h' Q) := R_vir (show mx_at 140 47 = some (.invokevirtual 102, 3) by decide +kernel) (mx_clk ow140 cc12_102) (Nat.le_of_ble_eq_true rfl) rfl rfl hc rfl (Nat.le_of_ble_eq_true rfl) (Nat.le_of_ble_eq_true rfl) (by rw [ml142]; exact Nat.le_of_ble_eq_true rfl)
set_option maxRecDepth 20000 in
theorem i140_50 : ex_ X d 140 50 [.ref a, v1] [] h Q = ex_ X d 140 51 [.ref a, v1] [.ref a] h Q := ex_nx (show mx_at 140 50 = some (.aload_n 0, 1) by decide +kernel) rfl
set_option maxRecDepth 20000 in
theorem i140_51 : ex_ X d 140 51 [v0, v1] [w0] h Q = ex_ X d 140 54 [v0, v1] [.int 20000, w0] h Q := R_sipush (show mx_at 140 51 = some (.sipush 20000, 3) by decide +kernel) (by decide)
set_option maxRecDepth 20000 in
theorem i140_54 : ex_ X d 140 54 [v0, .int x] [w0, w1] h Q = ex_ X d 140 55 [v0, .int x] [.int x, w0, w1] h Q := ex_nx (show mx_at 140 54 = some (.iload_n 1, 1) by decide +kernel) rfl
set_option maxRecDepth 20000 in
theorem i140_55 : ex_ X d 140 55 [v0, v1] [.int y, .int x, w0] h Q = ex_ X d 140 56 [v0, v1] [.int (x + y), w0] h Q := ex_nx (show mx_at 140 55 = some (.iadd, 1) by decide +kernel) rfl
set_option maxRecDepth 20000 in
theorem i140_56 (hc : co_ h a = some 12) : ex_ X (d + 1) 140 56 [v0, v1] [.int x0, .ref a] h Q = ev_ X d 135 [.ref a, .int x0] h (fun r h' => ex_ X (d + 1) 140 59 [v0, v1] (r.toList ++ []) h' Q) := R_vir (show mx_at 140 56 = some (.invokevirtual 89, 3) by decide +kernel) (mx_clk ow140 cc12_89) (Nat.le_of_ble_eq_true rfl) rfl rfl hc rfl (Nat.le_of_ble_eq_true rfl) (Nat.le_of_ble_eq_true rfl) (by rw [ml135]; exact Nat.le_of_ble_eq_true rfl)
set_option maxRecDepth 20000 in
theorem i140_59 : ex_ X d 140 59 [v0, v1] [] h Q = ex_ X d 140 4 [v0, v1] [] h Q := R_to (show mx_at 140 59 = some (.goto (-55), 3) by decide +kernel) rfl rfl
set_option maxRecDepth 20000 in
theorem i140_62 : ex_ X d 140 62 [v0, v1] [] h Q = Q none h := ex_ret (show mx_at 140 62 = some (.return_, 1) by decide +kernel) (mx_retV rt140)
theorem i140_e : ev_ X d 140 [.ref a] h Q = ex_ X d 140 0 [.ref a, .double 0] [] h Q := by rw [ev_, ml140]; rfl
-- 141 X12_opens
set_option maxRecDepth 20000 in
theorem i141_0 : ex_ X d 141 0 [.ref a, v1] [] h Q = ex_ X d 141 1 [.ref a, v1] [.ref a] h Q := ex_nx (show mx_at 141 0 = some (.aload_n 0, 1) by decide +kernel) rfl
set_option maxRecDepth 20000 in
theorem i141_1 : ex_ X d 141 1 [v0, v1] [.ref a] h Q = (gk_ h a 9 [(12, 0)] = true ∧ ex_ X d 141 4 [v0, v1] [gv_ h a 9] h Q) := R_getf (show mx_at 141 1 = some (.getfield 105, 3) by decide +kernel) (mx_fdo ow141 fd120105)
set_option maxRecDepth 20000 in
theorem i141_4 : ex_ X d 141 4 [v0, v1] [w0] h Q = ex_ X d 141 5 [v0, v1] [.int 5, w0] h Q := R_iconst (show mx_at 141 4 = some (.iconst 5, 1) by decide +kernel) (by decide)
set_option maxRecDepth 20000 in
theorem i141_5 : ex_ X d 141 5 [v0, v1] [.int y, .int x] h Q = if ¬ x = y then ex_ X d 141 13 [v0, v1] [] h Q else ex_ X d 141 8 [v0, v1] [] h Q := (R_br (show mx_at 141 5 = some (.if_icmp .ne 8, 3) by decide +kernel) rfl rfl).trans mx_ite
set_option maxRecDepth 20000 in
theorem i141_8 : ex_ X d 141 8 [.ref a, v1] [] h Q = ex_ X d 141 9 [.ref a, v1] [.ref a] h Q := ex_nx (show mx_at 141 8 = some (.aload_n 0, 1) by decide +kernel) rfl
set_option maxRecDepth 20000 in
theorem i141_9 (hc : co_ h a = some 12) : ex_ X (d + 1) 141 9 [v0, v1] [.ref a] h Q = ev_ X d 132 [.ref a] h (fun r h' => ex_ X (d + 1) 141 12 [v0, v1] (r.toList ++ []) h' Q) := R_vir (show mx_at 141 9 = some (.invokevirtual 108, 3) by decide +kernel) (mx_clk ow141 cc12_108) (Nat.le_of_ble_eq_true rfl) rfl rfl hc rfl (Nat.le_of_ble_eq_true rfl) (Nat.le_of_ble_eq_true rfl) (by rw [ml132]; exact Nat.le_of_ble_eq_true rfl)
set_option maxRecDepth 20000 in
theorem i141_12 : ex_ X d 141 12 [v0, v1] [] h Q = Q none h := ex_ret (show mx_at 141 12 = some (.return_, 1) by decide +kernel) (mx_retV rt141)
set_option maxRecDepth 20000 in
theorem i141_13 : ex_ X d 141 13 [.ref a, v1] [] h Q = ex_ X d 141 14 [.ref a, v1] [.ref a] h Q := ex_nx (show mx_at 141 13 = some (.aload_n 0, 1) by decide +kernel) rfl
set_option maxRecDepth 20000 in
theorem i141_14 : ex_ X d 141 14 [v0, v1] [.ref a] h Q = ex_ X d 141 15 [v0, v1] [.ref a, .ref a] h Q := ex_nx (show mx_at 141 14 = some (.dup, 1) by decide +kernel) rfl
set_option maxRecDepth 20000 in
theorem i141_15 : ex_ X d 141 15 [v0, v1] [.ref a, w0] h Q = (gk_ h a 9 [(12, 0)] = true ∧ ex_ X d 141 18 [v0, v1] [gv_ h a 9, w0] h Q) := R_getf (show mx_at 141 15 = some (.getfield 105, 3) by decide +kernel) (mx_fdo ow141 fd120105)
set_option maxRecDepth 20000 in
theorem i141_18 : ex_ X d 141 18 [v0, v1] [w0, w1] h Q = ex_ X d 141 19 [v0, v1] [.int 1, w0, w1] h Q := R_iconst (show mx_at 141 18 = some (.iconst 1, 1) by decide +kernel) (by decide)
set_option maxRecDepth 20000 in
theorem i141_19 : ex_ X d 141 19 [v0, v1] [.int y, .int x, w0] h Q = ex_ X d 141 20 [v0, v1] [.int (x + y), w0] h Q := ex_nx (show mx_at 141 19 = some (.iadd, 1) by decide +kernel) rfl
set_option maxRecDepth 20000 in
theorem i141_20 : ex_ X d 141 20 [v0, v1] [w, .ref a] h Q = (pk_ 141 h a 9 w [(12, 0)] = true ∧ ex_ X d 141 23 [v0, v1] [] (pf_ h a 9 w) Q) := R_putf (show mx_at 141 20 = some (.putfield 105, 3) by decide +kernel) (mx_fdo ow141 fd120105)
set_option maxRecDepth 20000 in
theorem i141_23 : ex_ X d 141 23 [.ref a, v1] [] h Q = ex_ X d 141 24 [.ref a, v1] [.ref a] h Q := ex_nx (show mx_at 141 23 = some (.aload_n 0, 1) by decide +kernel) rfl
set_option maxRecDepth 20000 in
theorem i141_24 : ex_ X d 141 24 [v0, v1] [.ref a] h Q = ex_ X d 141 25 [v0, v1] [.ref a, .ref a] h Q := ex_nx (show mx_at 141 24 = some (.dup, 1) by decide +kernel) rfl
set_option maxRecDepth 20000 in
theorem i141_25 : ex_ X d 141 25 [v0, v1] [.ref a, w0] h Q = (gk_ h a 6 [(12, 0)] = true ∧ ex_ X d 141 28 [v0, v1] [gv_ h a 6, w0] h Q) := R_getf (show mx_at 141 25 = some (.getfield 58, 3) by decide +kernel) (mx_fdo ow141 fd120058)
set_option maxRecDepth 20000 in
theorem i141_28 : ex_ X d 141 28 [v0, v1] [w0, w1] h Q = ex_ X d 141 29 [v0, v1] [.int 1, w0, w1] h Q := R_iconst (show mx_at 141 28 = some (.iconst 1, 1) by decide +kernel) (by decide)
set_option maxRecDepth 20000 in
theorem i141_29 : ex_ X d 141 29 [v0, v1] [.int y, .int x, w0] h Q = ex_ X d 141 30 [v0, v1] [.int (x + y), w0] h Q := ex_nx (show mx_at 141 29 = some (.iadd, 1) by decide +kernel) rfl
set_option maxRecDepth 20000 in
theorem i141_30 : ex_ X d 141 30 [v0, v1] [w, .ref a] h Q = (pk_ 141 h a 6 w [(12, 0)] = true ∧ ex_ X d 141 33 [v0, v1] [] (pf_ h a 6 w) Q) := R_putf (show mx_at 141 30 = some (.putfield 58, 3) by decide +kernel) (mx_fdo ow141 fd120058)
set_option maxRecDepth 20000 in
theorem i141_33 : ex_ X d 141 33 [v0, .int x] [] h Q = ex_ X d 141 34 [v0, .int x] [.int x] h Q := ex_nx (show mx_at 141 33 = some (.iload_n 1, 1) by decide +kernel) rfl
set_option maxRecDepth 20000 in
theorem i141_34 : ex_ X d 141 34 [v0, v1] [w0] h Q = ex_ X d 141 36 [v0, v1] [.int 33, w0] h Q := R_bipush (show mx_at 141 34 = some (.bipush 33, 2) by decide +kernel) (by decide)
set_option maxRecDepth 20000 in
theorem i141_36 : ex_ X d 141 36 [v0, v1] [.int y, .int x] h Q = if ¬ x = y then ex_ X d 141 53 [v0, v1] [] h Q else ex_ X d 141 39 [v0, v1] [] h Q := (R_br (show mx_at 141 36 = some (.if_icmp .ne 17, 3) by decide +kernel) rfl rfl).trans mx_ite
set_option maxRecDepth 20000 in
theorem i141_39 : ex_ X d 141 39 [.ref a, v1] [] h Q = ex_ X d 141 40 [.ref a, v1] [.ref a] h Q := ex_nx (show mx_at 141 39 = some (.aload_n 0, 1) by decide +kernel) rfl
set_option maxRecDepth 20000 in
theorem i141_40 (hc : co_ h a = some 12) : ex_ X (d + 1) 141 40 [v0, v1] [.ref a] h Q = ev_ X d 142 [.ref a] h (fun r h' => ex_ X (d + 1) 141 43 [v0, v1] (r.toList ++ []) h' Q) := R_vir (show mx_at 141 40 = some (.invokevirtual 102, 3) by decide +kernel) (mx_clk ow141 cc12_102) (Nat.le_of_ble_eq_true rfl) rfl rfl hc rfl (Nat.le_of_ble_eq_true rfl) (Nat.le_of_ble_eq_true rfl) (by rw [ml142]; exact Nat.le_of_ble_eq_true rfl)
set_option maxRecDepth 20000 in
theorem i141_43 : ex_ X d 141 43 [.ref a, v1] [] h Q = ex_ X d 141 44 [.ref a, v1] [.ref a] h Q := ex_nx (show mx_at 141 43 = some (.aload_n 0, 1) by decide +kernel) rfl
set_option maxRecDepth 20000 in
theorem i141_44 : ex_ X d 141 44 [v0, v1] [w0] h Q = ex_ X d 141 47 [v0, v1] [.int 20033, w0] h Q := R_sipush (show mx_at 141 44 = some (.sipush 20033, 3) by decide +kernel) (by decide)
set_option maxRecDepth 20000 in
theorem i141_47 (hc : co_ h a = some 12) : ex_ X (d + 1) 141 47 [v0, v1] [.int x0, .ref a] h Q = ev_ X d 135 [.ref a, .int x0] h (fun r h' => ex_ X (d + 1) 141 50 [v0, v1] (r.toList ++ []) h' Q) := R_vir (show mx_at 141 47 = some (.invokevirtual 89, 3) by decide +kernel) (mx_clk ow141 cc12_89) (Nat.le_of_ble_eq_true rfl) rfl rfl hc rfl (Nat.le_of_ble_eq_true rfl) (Nat.le_of_ble_eq_true rfl) (by rw [ml135]; exact Nat.le_of_ble_eq_true rfl)
set_option maxRecDepth 20000 in
theorem i141_50 : ex_ X d 141 50 [v0, v1] [] h Q = ex_ X d 141 70 [v0, v1] [] h Q := R_to (show mx_at 141 50 = some (.goto 20, 3) by decide +kernel) rfl rfl
set_option maxRecDepth 20000 in
theorem i141_53 : ex_ X d 141 53 [.ref a, v1] [] h Q = ex_ X d 141 54 [.ref a, v1] [.ref a] h Q := ex_nx (show mx_at 141 53 = some (.aload_n 0, 1) by decide +kernel) rfl
set_option maxRecDepth 20000 in
theorem i141_54 (hc : co_ h a = some 12) : ex_ X (d + 1) 141 54 [v0, v1] [.ref a] h Q = ev_ X d 136 [.ref a] h (fun r h' => ex_ X (d + 1) 141 57 [v0, v1] (r.toList ++ []) h' Q) := R_vir (show mx_at 141 54 = some (.invokevirtual 111, 3) by decide +kernel) (mx_clk ow141 cc12_111) (Nat.le_of_ble_eq_true rfl) rfl rfl hc rfl (Nat.le_of_ble_eq_true rfl) (Nat.le_of_ble_eq_true rfl) (by rw [ml136]; exact Nat.le_of_ble_eq_true rfl)
set_option maxRecDepth 20000 in
theorem i141_57 : ex_ X d 141 57 [.ref a, v1] [] h Q = ex_ X d 141 58 [.ref a, v1] [.ref a] h Q := ex_nx (show mx_at 141 57 = some (.aload_n 0, 1) by decide +kernel) rfl
set_option maxRecDepth 20000 in
theorem i141_58 : ex_ X d 141 58 [v0, v1] [w0] h Q = ex_ X d 141 60 [v0, v1] [.int 41, w0] h Q := R_bipush (show mx_at 141 58 = some (.bipush 41, 2) by decide +kernel) (by decide)
set_option maxRecDepth 20000 in
theorem i141_60 (hc : co_ h a = some 12) : ex_ X (d + 1) 141 60 [v0, v1] [.int x0, .ref a] h Q = ev_ X d 133 [.ref a, .int x0] h (fun r h' => ex_ X (d + 1) 141 63 [v0, v1] (r.toList ++ []) h' Q) := R_vir (show mx_at 141 60 = some (.invokevirtual 85, 3) by decide +kernel) (mx_clk ow141 cc12_85) (Nat.le_of_ble_eq_true rfl) rfl rfl hc rfl (Nat.le_of_ble_eq_true rfl) (Nat.le_of_ble_eq_true rfl) (by rw [ml133]; exact Nat.le_of_ble_eq_true rfl)
set_option maxRecDepth 20000 in
theorem i141_63 : ex_ X d 141 63 [v0, v1] [.int x] h Q = if ¬ x = 0 then ex_ X d 141 70 [v0, v1] [] h Q else ex_ X d 141 66 [v0, v1] [] h Q := (R_br (show mx_at 141 63 = some (.ifCond .ne 7, 3) by decide +kernel) rfl rfl).trans mx_ite
set_option maxRecDepth 20000 in
theorem i141_66 : ex_ X d 141 66 [.ref a, v1] [] h Q = ex_ X d 141 67 [.ref a, v1] [.ref a] h Q := ex_nx (show mx_at 141 66 = some (.aload_n 0, 1) by decide +kernel) rfl
set_option maxRecDepth 20000 in
theorem i141_67 (hc : co_ h a = some 12) : ex_ X (d + 1) 141 67 [v0, v1] [.ref a] h Q = ev_ X d 132 [.ref a] h (fun r h' => ex_ X (d + 1) 141 70 [v0, v1] (r.toList ++ []) h' Q) := R_vir (show mx_at 141 67 = some (.invokevirtual 108, 3) by decide +kernel) (mx_clk ow141 cc12_108) (Nat.le_of_ble_eq_true rfl) rfl rfl hc rfl (Nat.le_of_ble_eq_true rfl) (Nat.le_of_ble_eq_true rfl) (by rw [ml132]; exact Nat.le_of_ble_eq_true rfl)
set_option maxRecDepth 20000 in
theorem i141_70 : ex_ X d 141 70 [.ref a, v1] [] h Q = ex_ X d 141 71 [.ref a, v1] [.ref a] h Q := ex_nx (show mx_at 141 70 = some (.aload_n 0, 1) by decide +kernel) rfl
set_option maxRecDepth 20000 in
theorem i141_71 : ex_ X d 141 71 [v0, v1] [.ref a] h Q = ex_ X d 141 72 [v0, v1] [.ref a, .ref a] h Q := ex_nx (show mx_at 141 71 = some (.dup, 1) by decide +kernel) rfl
set_option maxRecDepth 20000 in
theorem i141_72 : ex_ X d 141 72 [v0, v1] [.ref a, w0] h Q = (gk_ h a 9 [(12, 0)] = true ∧ ex_ X d 141 75 [v0, v1] [gv_ h a 9, w0] h Q) := R_getf (show mx_at 141 72 = some (.getfield 105, 3) by decide +kernel) (mx_fdo ow141 fd120105)
set_option maxRecDepth 20000 in
theorem i141_75 : ex_ X d 141 75 [v0, v1] [w0, w1] h Q = ex_ X d 141 76 [v0, v1] [.int 1, w0, w1] h Q := R_iconst (show mx_at 141 75 = some (.iconst 1, 1) by decide +kernel) (by decide)
set_option maxRecDepth 20000 in
theorem i141_76 : ex_ X d 141 76 [v0, v1] [.int y, .int x, w0] h Q = ex_ X d 141 77 [v0, v1] [.int (x - y), w0] h Q := ex_nx (show mx_at 141 76 = some (.isub, 1) by decide +kernel) rfl
set_option maxRecDepth 20000 in
theorem i141_77 : ex_ X d 141 77 [v0, v1] [w, .ref a] h Q = (pk_ 141 h a 9 w [(12, 0)] = true ∧ ex_ X d 141 80 [v0, v1] [] (pf_ h a 9 w) Q) := R_putf (show mx_at 141 77 = some (.putfield 105, 3) by decide +kernel) (mx_fdo ow141 fd120105)
set_option maxRecDepth 20000 in
theorem i141_80 : ex_ X d 141 80 [v0, v1] [] h Q = Q none h := ex_ret (show mx_at 141 80 = some (.return_, 1) by decide +kernel) (mx_retV rt141)
theorem i141_e : ev_ X d 141 [.ref a, .int x0] h Q = ex_ X d 141 0 [.ref a, .int x0] [] h Q := by rw [ev_, ml141]; rfl
-- 142 X12_unit
set_option maxRecDepth 20000 in
theorem i142_0 : ex_ X d 142 0 [.ref a, v1, v2, v3, v4] [] h Q = ex_ X d 142 1 [.ref a, v1, v2, v3, v4] [.ref a] h Q := ex_nx (show mx_at 142 0 = some (.aload_n 0, 1) by decide +kernel) rfl
set_option maxRecDepth 20000 in
theorem i142_1 (hc : co_ h a = some 12) : ex_ X (d + 1) 142 1 [v0, v1, v2, v3, v4] [.ref a] h Q = ev_ X d 131 [.ref a] h (fun r h' => ex_ X (d + 1) 142 4 [v0, v1, v2, v3, v4] (r.toList ++ []) h' Q) := R_vir (show mx_at 142 1 = some (.invokevirtual 71, 3) by decide +kernel) (mx_clk ow142 cc12_71) (Nat.le_of_ble_eq_true rfl) rfl rfl hc rfl (Nat.le_of_ble_eq_true rfl) (Nat.le_of_ble_eq_true rfl) (by rw [ml131]; exact Nat.le_of_ble_eq_true rfl)
set_option maxRecDepth 20000 in
theorem i142_4 : ex_ X d 142 4 [v0, v1, v2, v3, v4] [.int x] h Q = (mx_nl v0 = true ∧ ex_ X d 142 5 [v0, .int x, v2, v3, v4] [] h Q) := mx_t1 (R_st (ok := mx_isI) (n := 1) (w := 1) (show mx_at 142 4 = some (.istore_n 1, 1) by decide +kernel) (fun _ _ => rfl) (Nat.le_of_ble_eq_true rfl)) rfl
set_option maxRecDepth 20000 in
theorem i142_5 : ex_ X d 142 5 [v0, .int x, v2, v3, v4] [] h Q = ex_ X d 142 6 [v0, .int x, v2, v3, v4] [.int x] h Q := ex_nx (show mx_at 142 5 = some (.iload_n 1, 1) by decide +kernel) rfl
set_option maxRecDepth 20000 in
theorem i142_6 : ex_ X d 142 6 [v0, v1, v2, v3, v4] [w0] h Q = ex_ X d 142 8 [v0, v1, v2, v3, v4] [.int 33, w0] h Q := R_bipush (show mx_at 142 6 = some (.bipush 33, 2) by decide +kernel) (by decide)
set_option maxRecDepth 20000 in
theorem i142_8 : ex_ X d 142 8 [v0, v1, v2, v3, v4] [.int y, .int x] h Q = if x = y then ex_ X d 142 17 [v0, v1, v2, v3, v4] [] h Q else ex_ X d 142 11 [v0, v1, v2, v3, v4] [] h Q := (R_br (show mx_at 142 8 = some (.if_icmp .eq 9, 3) by decide +kernel) rfl rfl).trans mx_ite
set_option maxRecDepth 20000 in
theorem i142_11 : ex_ X d 142 11 [v0, .int x, v2, v3, v4] [] h Q = ex_ X d 142 12 [v0, .int x, v2, v3, v4] [.int x] h Q := ex_nx (show mx_at 142 11 = some (.iload_n 1, 1) by decide +kernel) rfl
set_option maxRecDepth 20000 in
theorem i142_12 : ex_ X d 142 12 [v0, v1, v2, v3, v4] [w0] h Q = ex_ X d 142 14 [v0, v1, v2, v3, v4] [.int 40, w0] h Q := R_bipush (show mx_at 142 12 = some (.bipush 40, 2) by decide +kernel) (by decide)
set_option maxRecDepth 20000 in
theorem i142_14 : ex_ X d 142 14 [v0, v1, v2, v3, v4] [.int y, .int x] h Q = if ¬ x = y then ex_ X d 142 23 [v0, v1, v2, v3, v4] [] h Q else ex_ X d 142 17 [v0, v1, v2, v3, v4] [] h Q := (R_br (show mx_at 142 14 = some (.if_icmp .ne 9, 3) by decide +kernel) rfl rfl).trans mx_ite
set_option maxRecDepth 20000 in
theorem i142_17 : ex_ X d 142 17 [.ref a, v1, v2, v3, v4] [] h Q = ex_ X d 142 18 [.ref a, v1, v2, v3, v4] [.ref a] h Q := ex_nx (show mx_at 142 17 = some (.aload_n 0, 1) by decide +kernel) rfl
set_option maxRecDepth 20000 in
theorem i142_18 : ex_ X d 142 18 [v0, .int x, v2, v3, v4] [w0] h Q = ex_ X d 142 19 [v0, .int x, v2, v3, v4] [.int x, w0] h Q := ex_nx (show mx_at 142 18 = some (.iload_n 1, 1) by decide +kernel) rfl
set_option maxRecDepth 20000 in
theorem i142_19 (hc : co_ h a = some 12) : ex_ X (d + 1) 142 19 [v0, v1, v2, v3, v4] [.int x0, .ref a] h Q = ev_ X d 141 [.ref a, .int x0] h (fun r h' => ex_ X (d + 1) 142 22 [v0, v1, v2, v3, v4] (r.toList ++ []) h' Q) := R_vir (show mx_at 142 19 = some (.invokevirtual 114, 3) by decide +kernel) (mx_clk ow142 cc12_114) (Nat.le_of_ble_eq_true rfl) rfl rfl hc rfl (Nat.le_of_ble_eq_true rfl) (Nat.le_of_ble_eq_true rfl) (by rw [ml141]; exact Nat.le_of_ble_eq_true rfl)
set_option maxRecDepth 20000 in
theorem i142_22 : ex_ X d 142 22 [v0, v1, v2, v3, v4] [] h Q = Q none h := ex_ret (show mx_at 142 22 = some (.return_, 1) by decide +kernel) (mx_retV rt142)
set_option maxRecDepth 20000 in
theorem i142_23 : ex_ X d 142 23 [.ref a, v1, v2, v3, v4] [] h Q = ex_ X d 142 24 [.ref a, v1, v2, v3, v4] [.ref a] h Q := ex_nx (show mx_at 142 23 = some (.aload_n 0, 1) by decide +kernel) rfl
set_option maxRecDepth 20000 in
theorem i142_24 : ex_ X d 142 24 [v0, .int x, v2, v3, v4] [w0] h Q = ex_ X d 142 25 [v0, .int x, v2, v3, v4] [.int x, w0] h Q := ex_nx (show mx_at 142 24 = some (.iload_n 1, 1) by decide +kernel) rfl
set_option maxRecDepth 20000 in
theorem i142_25 (hc : co_ h a = some 12) : ex_ X (d + 1) 142 25 [v0, v1, v2, v3, v4] [.int x0, .ref a] h Q = ev_ X d 134 [.ref a, .int x0] h (fun r h' => ex_ X (d + 1) 142 28 [v0, v1, v2, v3, v4] (r.toList ++ []) h' Q) := R_vir (show mx_at 142 25 = some (.invokevirtual 117, 3) by decide +kernel) (mx_clk ow142 cc12_117) (Nat.le_of_ble_eq_true rfl) rfl rfl hc rfl (Nat.le_of_ble_eq_true rfl) (Nat.le_of_ble_eq_true rfl) (by rw [ml134]; exact Nat.le_of_ble_eq_true rfl)
set_option maxRecDepth 20000 in
theorem i142_28 : ex_ X d 142 28 [v0, v1, v2, v3, v4] [.int x] h Q = (mx_nl v1 = true ∧ ex_ X d 142 29 [v0, v1, .int x, v3, v4] [] h Q) := mx_t1 (R_st (ok := mx_isI) (n := 2) (w := 1) (show mx_at 142 28 = some (.istore_n 2, 1) by decide +kernel) (fun _ _ => rfl) (Nat.le_of_ble_eq_true rfl)) rfl
set_option maxRecDepth 20000 in
theorem i142_29 : ex_ X d 142 29 [v0, v1, .int x, v3, v4] [] h Q = ex_ X d 142 30 [v0, v1, .int x, v3, v4] [.int x] h Q := ex_nx (show mx_at 142 29 = some (.iload_n 2, 1) by decide +kernel) rfl
set_option maxRecDepth 20000 in
theorem i142_30 : ex_ X d 142 30 [v0, v1, v2, v3, v4] [.int x] h Q = if x < 0 then ex_ X d 142 53 [v0, v1, v2, v3, v4] [] h Q else ex_ X d 142 33 [v0, v1, v2, v3, v4] [] h Q := (R_br (show mx_at 142 30 = some (.ifCond .lt 23, 3) by decide +kernel) rfl rfl).trans mx_ite
set_option maxRecDepth 20000 in
theorem i142_33 : ex_ X d 142 33 [.ref a, v1, v2, v3, v4] [] h Q = ex_ X d 142 34 [.ref a, v1, v2, v3, v4] [.ref a] h Q := ex_nx (show mx_at 142 33 = some (.aload_n 0, 1) by decide +kernel) rfl
set_option maxRecDepth 20000 in
theorem i142_34 : ex_ X d 142 34 [v0, v1, v2, v3, v4] [.ref a] h Q = ex_ X d 142 35 [v0, v1, v2, v3, v4] [.ref a, .ref a] h Q := ex_nx (show mx_at 142 34 = some (.dup, 1) by decide +kernel) rfl
set_option maxRecDepth 20000 in
theorem i142_35 : ex_ X d 142 35 [v0, v1, v2, v3, v4] [.ref a, w0] h Q = (gk_ h a 6 [(12, 0)] = true ∧ ex_ X d 142 38 [v0, v1, v2, v3, v4] [gv_ h a 6, w0] h Q) := R_getf (show mx_at 142 35 = some (.getfield 58, 3) by decide +kernel) (mx_fdo ow142 fd120058)
set_option maxRecDepth 20000 in
theorem i142_38 : ex_ X d 142 38 [v0, v1, v2, v3, v4] [w0, w1] h Q = ex_ X d 142 39 [v0, v1, v2, v3, v4] [.int 1, w0, w1] h Q := R_iconst (show mx_at 142 38 = some (.iconst 1, 1) by decide +kernel) (by decide)
set_option maxRecDepth 20000 in
theorem i142_39 : ex_ X d 142 39 [v0, v1, v2, v3, v4] [.int y, .int x, w0] h Q = ex_ X d 142 40 [v0, v1, v2, v3, v4] [.int (x + y), w0] h Q := ex_nx (show mx_at 142 39 = some (.iadd, 1) by decide +kernel) rfl
set_option maxRecDepth 20000 in
theorem i142_40 : ex_ X d 142 40 [v0, v1, v2, v3, v4] [w, .ref a] h Q = (pk_ 142 h a 6 w [(12, 0)] = true ∧ ex_ X d 142 43 [v0, v1, v2, v3, v4] [] (pf_ h a 6 w) Q) := R_putf (show mx_at 142 40 = some (.putfield 58, 3) by decide +kernel) (mx_fdo ow142 fd120058)
set_option maxRecDepth 20000 in
theorem i142_43 : ex_ X d 142 43 [.ref a, v1, v2, v3, v4] [] h Q = ex_ X d 142 44 [.ref a, v1, v2, v3, v4] [.ref a] h Q := ex_nx (show mx_at 142 43 = some (.aload_n 0, 1) by decide +kernel) rfl
set_option maxRecDepth 20000 in
theorem i142_44 : ex_ X d 142 44 [v0, v1, v2, v3, v4] [w0] h Q = ex_ X d 142 47 [v0, v1, v2, v3, v4] [.int 10000, w0] h Q := R_sipush (show mx_at 142 44 = some (.sipush 10000, 3) by decide +kernel) (by decide)
set_option maxRecDepth 20000 in
theorem i142_47 : ex_ X d 142 47 [v0, v1, .int x, v3, v4] [w0, w1] h Q = ex_ X d 142 48 [v0, v1, .int x, v3, v4] [.int x, w0, w1] h Q := ex_nx (show mx_at 142 47 = some (.iload_n 2, 1) by decide +kernel) rfl
set_option maxRecDepth 20000 in
theorem i142_48 : ex_ X d 142 48 [v0, v1, v2, v3, v4] [.int y, .int x, w0] h Q = ex_ X d 142 49 [v0, v1, v2, v3, v4] [.int (x + y), w0] h Q := ex_nx (show mx_at 142 48 = some (.iadd, 1) by decide +kernel) rfl
set_option maxRecDepth 20000 in
theorem i142_49 (hc : co_ h a = some 12) : ex_ X (d + 1) 142 49 [v0, v1, v2, v3, v4] [.int x0, .ref a] h Q = ev_ X d 135 [.ref a, .int x0] h (fun r h' => ex_ X (d + 1) 142 52 [v0, v1, v2, v3, v4] (r.toList ++ []) h' Q) := R_vir (show mx_at 142 49 = some (.invokevirtual 89, 3) by decide +kernel) (mx_clk ow142 cc12_89) (Nat.le_of_ble_eq_true rfl) rfl rfl hc rfl (Nat.le_of_ble_eq_true rfl) (Nat.le_of_ble_eq_true rfl) (by rw [ml135]; exact Nat.le_of_ble_eq_true rfl)
set_option maxRecDepth 20000 in
theorem i142_52 : ex_ X d 142 52 [v0, v1, v2, v3, v4] [] h Q = Q none h := ex_ret (show mx_at 142 52 = some (.return_, 1) by decide +kernel) (mx_retV rt142)
set_option maxRecDepth 20000 in
theorem i142_53 : ex_ X d 142 53 [v0, v1, v2, v3, v4] [] h Q = ex_ X d 142 54 [v0, v1, v2, v3, v4] [.int 0] h Q := R_iconst (show mx_at 142 53 = some (.iconst 0, 1) by decide +kernel) (by decide)
set_option maxRecDepth 20000 in
theorem i142_54 : ex_ X d 142 54 [v0, v1, v2, v3, v4] [.int x] h Q = (mx_nl v2 = true ∧ ex_ X d 142 55 [v0, v1, v2, .int x, v4] [] h Q) := mx_t1 (R_st (ok := mx_isI) (n := 3) (w := 1) (show mx_at 142 54 = some (.istore_n 3, 1) by decide +kernel) (fun _ _ => rfl) (Nat.le_of_ble_eq_true rfl)) rfl
set_option maxRecDepth 20000 in
theorem i142_55 : ex_ X d 142 55 [v0, v1, v2, v3, v4] [] h Q = ex_ X d 142 56 [v0, v1, v2, v3, v4] [.int 0] h Q := R_iconst (show mx_at 142 55 = some (.iconst 0, 1) by decide +kernel) (by decide)
set_option maxRecDepth 20000 in
theorem i142_56 : ex_ X d 142 56 [v0, v1, v2, v3, v4] [.int x] h Q = (mx_nl v3 = true ∧ ex_ X d 142 58 [v0, v1, v2, v3, .int x] [] h Q) := mx_t1 (R_st (ok := mx_isI) (n := 4) (w := 2) (show mx_at 142 56 = some (.istore 4, 2) by decide +kernel) (fun _ _ => rfl) (Nat.le_of_ble_eq_true rfl)) rfl
set_option maxRecDepth 20000 in
theorem i142_58 : ex_ X d 142 58 [v0, v1, v2, v3, .int x] [] h Q = ex_ X d 142 60 [v0, v1, v2, v3, .int x] [.int x] h Q := ex_nx (show mx_at 142 58 = some (.iload 4, 2) by decide +kernel) rfl
set_option maxRecDepth 20000 in
theorem i142_60 : ex_ X d 142 60 [v0, v1, v2, v3, v4] [w0] h Q = ex_ X d 142 61 [v0, v1, v2, v3, v4] [.int 4, w0] h Q := R_iconst (show mx_at 142 60 = some (.iconst 4, 1) by decide +kernel) (by decide)
set_option maxRecDepth 20000 in
theorem i142_61 : ex_ X d 142 61 [v0, v1, v2, v3, v4] [.int y, .int x] h Q = if y ≤ x then ex_ X d 142 110 [v0, v1, v2, v3, v4] [] h Q else ex_ X d 142 64 [v0, v1, v2, v3, v4] [] h Q := (R_br (show mx_at 142 61 = some (.if_icmp .ge 49, 3) by decide +kernel) rfl rfl).trans mx_ite
set_option maxRecDepth 20000 in
theorem i142_64 : ex_ X d 142 64 [.ref a, v1, v2, v3, v4] [] h Q = ex_ X d 142 65 [.ref a, v1, v2, v3, v4] [.ref a] h Q := ex_nx (show mx_at 142 64 = some (.aload_n 0, 1) by decide +kernel) rfl
set_option maxRecDepth 20000 in
theorem i142_65 (hc : co_ h a = some 12) : ex_ X (d + 1) 142 65 [v0, v1, v2, v3, v4] [.ref a] h Q = ev_ X d 131 [.ref a] h (fun r h' => ex_ X (d + 1) 142 68 [v0, v1, v2, v3, v4] (r.toList ++ []) h' Q) := R_vir (show mx_at 142 65 = some (.invokevirtual 71, 3) by decide +kernel) (mx_clk ow142 cc12_71) (Nat.le_of_ble_eq_true rfl) rfl rfl hc rfl (Nat.le_of_ble_eq_true rfl) (Nat.le_of_ble_eq_true rfl) (by rw [ml131]; exact Nat.le_of_ble_eq_true rfl)
set_option maxRecDepth 20000 in
theorem i142_68 : ex_ X d 142 68 [v0, v1, v2, v3, v4] [.int x] h Q = ex_ X d 142 69 [v0, v1, v2, v3, v4] [.long x.toInt64] h Q := ex_nx (show mx_at 142 68 = some (.i2l, 1) by decide +kernel) rfl
set_option maxRecDepth 20000 in
theorem i142_69 : ex_ X d 142 69 [v0, v1, v2, v3, v4] [w0] h Q = ex_ X d 142 72 [v0, v1, v2, v3, v4] [.long 48, w0] h Q := R_ldc2 (show mx_at 142 69 = some (.ldc2_w 121, 3) by decide +kernel) ow142 kl120121
set_option maxRecDepth 20000 in
theorem i142_72 : ex_ X d 142 72 [v0, v1, v2, v3, v4] [w0, w1] h Q = ex_ X d 142 75 [v0, v1, v2, v3, v4] [.long 57, w0, w1] h Q := R_ldc2 (show mx_at 142 72 = some (.ldc2_w 123, 3) by decide +kernel) ow142 kl120123
set_option maxRecDepth 20000 in
theorem i142_75 : ex_ X (d + 1) 142 75 [v0, v1, v2, v3, v4] [.long j2, .long j1, .long j0] h Q = ev_ X d 124 [.long j0, .long j1, .long j2] h (fun r h' => ex_ X (d + 1) 142 78 [v0, v1, v2, v3, v4] (r.toList ++ []) h' Q) := R_stat (show mx_at 142 75 = some (.invokestatic 54, 3) by decide +kernel) (mx_clk ow142 cc12_54) (Nat.le_of_ble_eq_true rfl) rfl rfl (Nat.le_of_ble_eq_true rfl) ml124 (Nat.le_of_ble_eq_true rfl)
set_option maxRecDepth 20000 in
theorem i142_78 : ex_ X d 142 78 [v0, v1, v2, v3, v4] [.int x] h Q = if x = 0 then ex_ X d 142 110 [v0, v1, v2, v3, v4] [] h Q else ex_ X d 142 81 [v0, v1, v2, v3, v4] [] h Q := (R_br (show mx_at 142 78 = some (.ifCond .eq 32, 3) by decide +kernel) rfl rfl).trans mx_ite
set_option maxRecDepth 20000 in
theorem i142_81 : ex_ X d 142 81 [v0, v1, v2, v3, v4] [] h Q = ex_ X d 142 83 [v0, v1, v2, v3, v4] [.int 10] h Q := R_bipush (show mx_at 142 81 = some (.bipush 10, 2) by decide +kernel) (by decide)
set_option maxRecDepth 20000 in
theorem i142_83 : ex_ X d 142 83 [v0, v1, v2, .int x, v4] [w0] h Q = ex_ X d 142 84 [v0, v1, v2, .int x, v4] [.int x, w0] h Q := ex_nx (show mx_at 142 83 = some (.iload_n 3, 1) by decide +kernel) rfl
set_option maxRecDepth 20000 in
theorem i142_84 : ex_ X d 142 84 [v0, v1, v2, v3, v4] [.int y, .int x] h Q = ex_ X d 142 85 [v0, v1, v2, v3, v4] [.int (x * y)] h Q := ex_nx (show mx_at 142 84 = some (.imul, 1) by decide +kernel) rfl
set_option maxRecDepth 20000 in
theorem i142_85 : ex_ X d 142 85 [.ref a, v1, v2, v3, v4] [w0] h Q = ex_ X d 142 86 [.ref a, v1, v2, v3, v4] [.ref a, w0] h Q := ex_nx (show mx_at 142 85 = some (.aload_n 0, 1) by decide +kernel) rfl
set_option maxRecDepth 20000 in
theorem i142_86 (hc : co_ h a = some 12) : ex_ X (d + 1) 142 86 [v0, v1, v2, v3, v4] [.ref a, w0] h Q = ev_ X d 131 [.ref a] h (fun r h' => ex_ X (d + 1) 142 89 [v0, v1, v2, v3, v4] (r.toList ++ [w0]) h' Q) := R_vir (show mx_at 142 86 = some (.invokevirtual 71, 3) by decide +kernel) (mx_clk ow142 cc12_71) (Nat.le_of_ble_eq_true rfl) rfl rfl hc rfl (Nat.le_of_ble_eq_true rfl) (Nat.le_of_ble_eq_true rfl) (by rw [ml131]; exact Nat.le_of_ble_eq_true rfl)
set_option maxRecDepth 20000 in
theorem i142_89 : ex_ X d 142 89 [v0, v1, v2, v3, v4] [.int y, .int x] h Q = ex_ X d 142 90 [v0, v1, v2, v3, v4] [.int (x + y)] h Q := ex_nx (show mx_at 142 89 = some (.iadd, 1) by decide +kernel) rfl
set_option maxRecDepth 20000 in
theorem i142_90 : ex_ X d 142 90 [v0, v1, v2, v3, v4] [w0] h Q = ex_ X d 142 92 [v0, v1, v2, v3, v4] [.int 48, w0] h Q := R_bipush (show mx_at 142 90 = some (.bipush 48, 2) by decide +kernel) (by decide)
set_option maxRecDepth 20000 in
theorem i142_92 : ex_ X d 142 92 [v0, v1, v2, v3, v4] [.int y, .int x] h Q = ex_ X d 142 93 [v0, v1, v2, v3, v4] [.int (x - y)] h Q := ex_nx (show mx_at 142 92 = some (.isub, 1) by decide +kernel) rfl
set_option maxRecDepth 20000 in
theorem i142_93 : ex_ X d 142 93 [v0, v1, v2, v3, v4] [.int x] h Q = (mx_nl v2 = true ∧ ex_ X d 142 94 [v0, v1, v2, .int x, v4] [] h Q) := mx_t1 (R_st (ok := mx_isI) (n := 3) (w := 1) (show mx_at 142 93 = some (.istore_n 3, 1) by decide +kernel) (fun _ _ => rfl) (Nat.le_of_ble_eq_true rfl)) rfl
set_option maxRecDepth 20000 in
theorem i142_94 : ex_ X d 142 94 [.ref a, v1, v2, v3, v4] [] h Q = ex_ X d 142 95 [.ref a, v1, v2, v3, v4] [.ref a] h Q := ex_nx (show mx_at 142 94 = some (.aload_n 0, 1) by decide +kernel) rfl
set_option maxRecDepth 20000 in
theorem i142_95 : ex_ X d 142 95 [v0, v1, v2, v3, v4] [.ref a] h Q = ex_ X d 142 96 [v0, v1, v2, v3, v4] [.ref a, .ref a] h Q := ex_nx (show mx_at 142 95 = some (.dup, 1) by decide +kernel) rfl
set_option maxRecDepth 20000 in
theorem i142_96 : ex_ X d 142 96 [v0, v1, v2, v3, v4] [.ref a, w0] h Q = (gk_ h a 6 [(12, 0)] = true ∧ ex_ X d 142 99 [v0, v1, v2, v3, v4] [gv_ h a 6, w0] h Q) := R_getf (show mx_at 142 96 = some (.getfield 58, 3) by decide +kernel) (mx_fdo ow142 fd120058)
set_option maxRecDepth 20000 in
theorem i142_99 : ex_ X d 142 99 [v0, v1, v2, v3, v4] [w0, w1] h Q = ex_ X d 142 100 [v0, v1, v2, v3, v4] [.int 1, w0, w1] h Q := R_iconst (show mx_at 142 99 = some (.iconst 1, 1) by decide +kernel) (by decide)
set_option maxRecDepth 20000 in
theorem i142_100 : ex_ X d 142 100 [v0, v1, v2, v3, v4] [.int y, .int x, w0] h Q = ex_ X d 142 101 [v0, v1, v2, v3, v4] [.int (x + y), w0] h Q := ex_nx (show mx_at 142 100 = some (.iadd, 1) by decide +kernel) rfl
set_option maxRecDepth 20000 in
theorem i142_101 : ex_ X d 142 101 [v0, v1, v2, v3, v4] [w, .ref a] h Q = (pk_ 142 h a 6 w [(12, 0)] = true ∧ ex_ X d 142 104 [v0, v1, v2, v3, v4] [] (pf_ h a 6 w) Q) := R_putf (show mx_at 142 101 = some (.putfield 58, 3) by decide +kernel) (mx_fdo ow142 fd120058)
set_option maxRecDepth 20000 in
theorem i142_104 : ex_ X d 142 104 [v0, v1, v2, v3, .int x] [] h Q = (mx_nl v3 = true ∧ ex_ X d 142 107 [v0, v1, v2, v3, .int (x + 1)] [] h Q) := R_iinc (n := 4) (c := 1) (show mx_at 142 104 = some (.iinc 4 1, 3) by decide +kernel) rfl
set_option maxRecDepth 20000 in
theorem i142_107 : ex_ X d 142 107 [v0, v1, v2, v3, v4] [] h Q = ex_ X d 142 58 [v0, v1, v2, v3, v4] [] h Q := R_to (show mx_at 142 107 = some (.goto (-49), 3) by decide +kernel) rfl rfl
set_option maxRecDepth 20000 in
theorem i142_110 : ex_ X d 142 110 [v0, v1, v2, v3, .int x] [] h Q = ex_ X d 142 112 [v0, v1, v2, v3, .int x] [.int x] h Q := ex_nx (show mx_at 142 110 = some (.iload 4, 2) by decide +kernel) rfl
set_option maxRecDepth 20000 in
theorem i142_112 : ex_ X d 142 112 [v0, v1, v2, v3, v4] [.int x] h Q = if ¬ x = 0 then ex_ X d 142 119 [v0, v1, v2, v3, v4] [] h Q else ex_ X d 142 115 [v0, v1, v2, v3, v4] [] h Q := (R_br (show mx_at 142 112 = some (.ifCond .ne 7, 3) by decide +kernel) rfl rfl).trans mx_ite
set_option maxRecDepth 20000 in
theorem i142_115 : ex_ X d 142 115 [.ref a, v1, v2, v3, v4] [] h Q = ex_ X d 142 116 [.ref a, v1, v2, v3, v4] [.ref a] h Q := ex_nx (show mx_at 142 115 = some (.aload_n 0, 1) by decide +kernel) rfl
set_option maxRecDepth 20000 in
theorem i142_116 (hc : co_ h a = some 12) : ex_ X (d + 1) 142 116 [v0, v1, v2, v3, v4] [.ref a] h Q = ev_ X d 132 [.ref a] h (fun r h' => ex_ X (d + 1) 142 119 [v0, v1, v2, v3, v4] (r.toList ++ []) h' Q) := R_vir (show mx_at 142 116 = some (.invokevirtual 108, 3) by decide +kernel) (mx_clk ow142 cc12_108) (Nat.le_of_ble_eq_true rfl) rfl rfl hc rfl (Nat.le_of_ble_eq_true rfl) (Nat.le_of_ble_eq_true rfl) (by rw [ml132]; exact Nat.le_of_ble_eq_true rfl)
set_option maxRecDepth 20000 in
theorem i142_119 : ex_ X d 142 119 [.ref a, v1, v2, v3, v4] [] h Q = ex_ X d 142 120 [.ref a, v1, v2, v3, v4] [.ref a] h Q := ex_nx (show mx_at 142 119 = some (.aload_n 0, 1) by decide +kernel) rfl
set_option maxRecDepth 20000 in
theorem i142_120 : ex_ X d 142 120 [v0, v1, v2, .int x, v4] [w0] h Q = ex_ X d 142 121 [v0, v1, v2, .int x, v4] [.int x, w0] h Q := ex_nx (show mx_at 142 120 = some (.iload_n 3, 1) by decide +kernel) rfl
set_option maxRecDepth 20000 in
theorem i142_121 (hc : co_ h a = some 12) : ex_ X (d + 1) 142 121 [v0, v1, v2, v3, v4] [.int x0, .ref a] h Q = ev_ X d 135 [.ref a, .int x0] h (fun r h' => ex_ X (d + 1) 142 124 [v0, v1, v2, v3, v4] (r.toList ++ []) h' Q) := R_vir (show mx_at 142 121 = some (.invokevirtual 89, 3) by decide +kernel) (mx_clk ow142 cc12_89) (Nat.le_of_ble_eq_true rfl) rfl rfl hc rfl (Nat.le_of_ble_eq_true rfl) (Nat.le_of_ble_eq_true rfl) (by rw [ml135]; exact Nat.le_of_ble_eq_true rfl)
set_option maxRecDepth 20000 in
theorem i142_124 : ex_ X d 142 124 [v0, v1, v2, v3, v4] [] h Q = Q none h := ex_ret (show mx_at 142 124 = some (.return_, 1) by decide +kernel) (mx_retV rt142)
theorem i142_e : ev_ X d 142 [.ref a] h Q = ex_ X d 142 0 [.ref a, .double 0, .double 0, .double 0, .double 0] [] h Q := by rw [ev_, ml142]; rfl
-- 143 X12_reads
set_option maxRecDepth 20000 in
theorem i143_0 : ex_ X d 143 0 [.ref a, v1, v2, v3] [] h Q = ex_ X d 143 1 [.ref a, v1, v2, v3] [.ref a] h Q := ex_nx (show mx_at 143 0 = some (.aload_n 0, 1) by decide +kernel) rfl
set_option maxRecDepth 20000 in
theorem i143_1 : ex_ X d 143 1 [v0, .int x, v2, v3] [w0] h Q = ex_ X d 143 2 [v0, .int x, v2, v3] [.int x, w0] h Q := ex_nx (show mx_at 143 1 = some (.iload_n 1, 1) by decide +kernel) rfl
set_option maxRecDepth 20000 in
theorem i143_2 : ex_ X d 143 2 [v0, v1, v2, v3] [w, .ref a] h Q = (pk_ 143 h a 5 w [(12, 0)] = true ∧ ex_ X d 143 5 [v0, v1, v2, v3] [] (pf_ h a 5 w) Q) := R_putf (show mx_at 143 2 = some (.putfield 68, 3) by decide +kernel) (mx_fdo ow143 fd120068)
set_option maxRecDepth 20000 in
theorem i143_5 : ex_ X d 143 5 [.ref a, v1, v2, v3] [] h Q = ex_ X d 143 6 [.ref a, v1, v2, v3] [.ref a] h Q := ex_nx (show mx_at 143 5 = some (.aload_n 0, 1) by decide +kernel) rfl
set_option maxRecDepth 20000 in
theorem i143_6 : ex_ X d 143 6 [v0, v1, v2, v3] [w0] h Q = ex_ X d 143 7 [v0, v1, v2, v3] [.int 0, w0] h Q := R_iconst (show mx_at 143 6 = some (.iconst 0, 1) by decide +kernel) (by decide)
set_option maxRecDepth 20000 in
theorem i143_7 : ex_ X d 143 7 [v0, v1, v2, v3] [w, .ref a] h Q = (pk_ 143 h a 6 w [(12, 0)] = true ∧ ex_ X d 143 10 [v0, v1, v2, v3] [] (pf_ h a 6 w) Q) := R_putf (show mx_at 143 7 = some (.putfield 58, 3) by decide +kernel) (mx_fdo ow143 fd120058)
set_option maxRecDepth 20000 in
theorem i143_10 : ex_ X d 143 10 [.ref a, v1, v2, v3] [] h Q = ex_ X d 143 11 [.ref a, v1, v2, v3] [.ref a] h Q := ex_nx (show mx_at 143 10 = some (.aload_n 0, 1) by decide +kernel) rfl
set_option maxRecDepth 20000 in
theorem i143_11 : ex_ X d 143 11 [v0, v1, .int x, v3] [w0] h Q = ex_ X d 143 12 [v0, v1, .int x, v3] [.int x, w0] h Q := ex_nx (show mx_at 143 11 = some (.iload_n 2, 1) by decide +kernel) rfl
set_option maxRecDepth 20000 in
theorem i143_12 : ex_ X d 143 12 [v0, v1, v2, v3] [w, .ref a] h Q = (pk_ 143 h a 7 w [(12, 0)] = true ∧ ex_ X d 143 15 [v0, v1, v2, v3] [] (pf_ h a 7 w) Q) := R_putf (show mx_at 143 12 = some (.putfield 62, 3) by decide +kernel) (mx_fdo ow143 fd120062)
set_option maxRecDepth 20000 in
theorem i143_15 : ex_ X d 143 15 [.ref a, v1, v2, v3] [] h Q = ex_ X d 143 16 [.ref a, v1, v2, v3] [.ref a] h Q := ex_nx (show mx_at 143 15 = some (.aload_n 0, 1) by decide +kernel) rfl
set_option maxRecDepth 20000 in
theorem i143_16 : ex_ X d 143 16 [v0, v1, v2, v3] [w0] h Q = ex_ X d 143 17 [v0, v1, v2, v3] [.int (-1), w0] h Q := R_iconst (show mx_at 143 16 = some (.iconst (-1), 1) by decide +kernel) (by decide)
set_option maxRecDepth 20000 in
theorem i143_17 : ex_ X d 143 17 [v0, v1, v2, v3] [w, .ref a] h Q = (pk_ 143 h a 8 w [(12, 0)] = true ∧ ex_ X d 143 20 [v0, v1, v2, v3] [] (pf_ h a 8 w) Q) := R_putf (show mx_at 143 17 = some (.putfield 65, 3) by decide +kernel) (mx_fdo ow143 fd120065)
set_option maxRecDepth 20000 in
theorem i143_20 : ex_ X d 143 20 [.ref a, v1, v2, v3] [] h Q = ex_ X d 143 21 [.ref a, v1, v2, v3] [.ref a] h Q := ex_nx (show mx_at 143 20 = some (.aload_n 0, 1) by decide +kernel) rfl
set_option maxRecDepth 20000 in
theorem i143_21 : ex_ X d 143 21 [v0, v1, v2, v3] [w0] h Q = ex_ X d 143 22 [v0, v1, v2, v3] [.int 0, w0] h Q := R_iconst (show mx_at 143 21 = some (.iconst 0, 1) by decide +kernel) (by decide)
set_option maxRecDepth 20000 in
theorem i143_22 : ex_ X d 143 22 [v0, v1, v2, v3] [w, .ref a] h Q = (pk_ 143 h a 9 w [(12, 0)] = true ∧ ex_ X d 143 25 [v0, v1, v2, v3] [] (pf_ h a 9 w) Q) := R_putf (show mx_at 143 22 = some (.putfield 105, 3) by decide +kernel) (mx_fdo ow143 fd120105)
set_option maxRecDepth 20000 in
theorem i143_25 : ex_ X d 143 25 [.ref a, v1, v2, v3] [] h Q = ex_ X d 143 26 [.ref a, v1, v2, v3] [.ref a] h Q := ex_nx (show mx_at 143 25 = some (.aload_n 0, 1) by decide +kernel) rfl
set_option maxRecDepth 20000 in
theorem i143_26 : ex_ X d 143 26 [v0, v1, v2, v3] [w0] h Q = ex_ X d 143 27 [v0, v1, v2, v3] [.int 0, w0] h Q := R_iconst (show mx_at 143 26 = some (.iconst 0, 1) by decide +kernel) (by decide)
set_option maxRecDepth 20000 in
theorem i143_27 : ex_ X d 143 27 [v0, v1, v2, v3] [w, .ref a] h Q = (pk_ 143 h a 13 w [(12, 0)] = true ∧ ex_ X d 143 30 [v0, v1, v2, v3] [] (pf_ h a 13 w) Q) := R_putf (show mx_at 143 27 = some (.putfield 79, 3) by decide +kernel) (mx_fdo ow143 fd120079)
set_option maxRecDepth 20000 in
theorem i143_30 : ex_ X d 143 30 [.ref a, v1, v2, v3] [] h Q = ex_ X d 143 31 [.ref a, v1, v2, v3] [.ref a] h Q := ex_nx (show mx_at 143 30 = some (.aload_n 0, 1) by decide +kernel) rfl
set_option maxRecDepth 20000 in
theorem i143_31 : ex_ X d 143 31 [v0, v1, v2, .int x] [w0] h Q = ex_ X d 143 32 [v0, v1, v2, .int x] [.int x, w0] h Q := ex_nx (show mx_at 143 31 = some (.iload_n 3, 1) by decide +kernel) rfl
set_option maxRecDepth 20000 in
theorem i143_32 : ex_ X d 143 32 [v0, v1, v2, v3] [.int x, w0] h Q = if ¬ x = 0 then ex_ X d 143 39 [v0, v1, v2, v3] [w0] h Q else ex_ X d 143 35 [v0, v1, v2, v3] [w0] h Q := (R_br (show mx_at 143 32 = some (.ifCond .ne 7, 3) by decide +kernel) rfl rfl).trans mx_ite
set_option maxRecDepth 20000 in
theorem i143_35 : ex_ X d 143 35 [v0, v1, v2, v3] [w0] h Q = ex_ X d 143 36 [v0, v1, v2, v3] [.int 1, w0] h Q := R_iconst (show mx_at 143 35 = some (.iconst 1, 1) by decide +kernel) (by decide)
set_option maxRecDepth 20000 in
theorem i143_36 : ex_ X d 143 36 [v0, v1, v2, v3] [w0, w1] h Q = ex_ X d 143 40 [v0, v1, v2, v3] [w0, w1] h Q := R_to (show mx_at 143 36 = some (.goto 4, 3) by decide +kernel) rfl rfl
set_option maxRecDepth 20000 in
theorem i143_39 : ex_ X d 143 39 [v0, v1, v2, v3] [w0] h Q = ex_ X d 143 40 [v0, v1, v2, v3] [.int 0, w0] h Q := R_iconst (show mx_at 143 39 = some (.iconst 0, 1) by decide +kernel) (by decide)
set_option maxRecDepth 20000 in
theorem i143_40 : ex_ X d 143 40 [v0, v1, v2, v3] [w, .ref a] h Q = (pk_ 143 h a 10 w [(12, 0)] = true ∧ ex_ X d 143 43 [v0, v1, v2, v3] [] (pf_ h a 10 w) Q) := R_putf (show mx_at 143 40 = some (.putfield 75, 3) by decide +kernel) (mx_fdo ow143 fd120075)
set_option maxRecDepth 20000 in
theorem i143_43 : ex_ X d 143 43 [.ref a, v1, v2, v3] [] h Q = ex_ X d 143 44 [.ref a, v1, v2, v3] [.ref a] h Q := ex_nx (show mx_at 143 43 = some (.aload_n 0, 1) by decide +kernel) rfl
set_option maxRecDepth 20000 in
theorem i143_44 (hc : co_ h a = some 12) : ex_ X (d + 1) 143 44 [v0, v1, v2, v3] [.ref a] h Q = ev_ X d 136 [.ref a] h (fun r h' => ex_ X (d + 1) 143 47 [v0, v1, v2, v3] (r.toList ++ []) h' Q) := R_vir (show mx_at 143 44 = some (.invokevirtual 111, 3) by decide +kernel) (mx_clk ow143 cc12_111) (Nat.le_of_ble_eq_true rfl) rfl rfl hc rfl (Nat.le_of_ble_eq_true rfl) (Nat.le_of_ble_eq_true rfl) (by rw [ml136]; exact Nat.le_of_ble_eq_true rfl)
set_option maxRecDepth 20000 in
theorem i143_47 : ex_ X d 143 47 [.ref a, v1, v2, v3] [] h Q = ex_ X d 143 48 [.ref a, v1, v2, v3] [.ref a] h Q := ex_nx (show mx_at 143 47 = some (.aload_n 0, 1) by decide +kernel) rfl
set_option maxRecDepth 20000 in
theorem i143_48 : ex_ X d 143 48 [v0, v1, v2, v3] [.ref a] h Q = (gk_ h a 8 [(12, 0)] = true ∧ ex_ X d 143 51 [v0, v1, v2, v3] [gv_ h a 8] h Q) := R_getf (show mx_at 143 48 = some (.getfield 65, 3) by decide +kernel) (mx_fdo ow143 fd120065)
set_option maxRecDepth 20000 in
theorem i143_51 : ex_ X d 143 51 [v0, v1, v2, v3] [.int x] h Q = if 0 ≤ x then ex_ X d 143 69 [v0, v1, v2, v3] [] h Q else ex_ X d 143 54 [v0, v1, v2, v3] [] h Q := (R_br (show mx_at 143 51 = some (.ifCond .ge 18, 3) by decide +kernel) rfl rfl).trans mx_ite
set_option maxRecDepth 20000 in
theorem i143_54 : ex_ X d 143 54 [.ref a, v1, v2, v3] [] h Q = ex_ X d 143 55 [.ref a, v1, v2, v3] [.ref a] h Q := ex_nx (show mx_at 143 54 = some (.aload_n 0, 1) by decide +kernel) rfl
set_option maxRecDepth 20000 in
theorem i143_55 : ex_ X d 143 55 [v0, v1, v2, v3] [.ref a] h Q = (gk_ h a 6 [(12, 0)] = true ∧ ex_ X d 143 58 [v0, v1, v2, v3] [gv_ h a 6] h Q) := R_getf (show mx_at 143 55 = some (.getfield 58, 3) by decide +kernel) (mx_fdo ow143 fd120058)
set_option maxRecDepth 20000 in
theorem i143_58 : ex_ X d 143 58 [.ref a, v1, v2, v3] [w0] h Q = ex_ X d 143 59 [.ref a, v1, v2, v3] [.ref a, w0] h Q := ex_nx (show mx_at 143 58 = some (.aload_n 0, 1) by decide +kernel) rfl
set_option maxRecDepth 20000 in
theorem i143_59 : ex_ X d 143 59 [v0, v1, v2, v3] [.ref a, w0] h Q = (gk_ h a 7 [(12, 0)] = true ∧ ex_ X d 143 62 [v0, v1, v2, v3] [gv_ h a 7, w0] h Q) := R_getf (show mx_at 143 59 = some (.getfield 62, 3) by decide +kernel) (mx_fdo ow143 fd120062)
set_option maxRecDepth 20000 in
theorem i143_62 : ex_ X d 143 62 [v0, v1, v2, v3] [.int y, .int x] h Q = if y ≤ x then ex_ X d 143 69 [v0, v1, v2, v3] [] h Q else ex_ X d 143 65 [v0, v1, v2, v3] [] h Q := (R_br (show mx_at 143 62 = some (.if_icmp .ge 7, 3) by decide +kernel) rfl rfl).trans mx_ite
set_option maxRecDepth 20000 in
theorem i143_65 : ex_ X d 143 65 [.ref a, v1, v2, v3] [] h Q = ex_ X d 143 66 [.ref a, v1, v2, v3] [.ref a] h Q := ex_nx (show mx_at 143 65 = some (.aload_n 0, 1) by decide +kernel) rfl
set_option maxRecDepth 20000 in
theorem i143_66 (hc : co_ h a = some 12) : ex_ X (d + 1) 143 66 [v0, v1, v2, v3] [.ref a] h Q = ev_ X d 132 [.ref a] h (fun r h' => ex_ X (d + 1) 143 69 [v0, v1, v2, v3] (r.toList ++ []) h' Q) := R_vir (show mx_at 143 66 = some (.invokevirtual 108, 3) by decide +kernel) (mx_clk ow143 cc12_108) (Nat.le_of_ble_eq_true rfl) rfl rfl hc rfl (Nat.le_of_ble_eq_true rfl) (Nat.le_of_ble_eq_true rfl) (by rw [ml132]; exact Nat.le_of_ble_eq_true rfl)
set_option maxRecDepth 20000 in
theorem i143_69 : ex_ X d 143 69 [v0, v1, v2, v3] [] h Q = Q none h := ex_ret (show mx_at 143 69 = some (.return_, 1) by decide +kernel) (mx_retV rt143)
theorem i143_e : ev_ X d 143 [.ref a, .int x0, .int x1, .int x2] h Q = ex_ X d 143 0 [.ref a, .int x0, .int x1, .int x2] [] h Q := by rw [ev_, ml143]; rfl
-- 144 X12_done
set_option maxRecDepth 20000 in
theorem i144_0 : ex_ X d 144 0 [.int x, v1, v2] [] h Q = ex_ X d 144 1 [.int x, v1, v2] [.int x] h Q := ex_nx (show mx_at 144 0 = some (.iload_n 0, 1) by decide +kernel) rfl
set_option maxRecDepth 20000 in
theorem i144_1_38 : ex_ X d 144 1 [v0, v1, v2] [.int 38] h Q = ex_ X d 144 98 [v0, v1, v2] [] h Q := R_lsw (off := 97) (show mx_at 144 1 = some (.lookupswitch 168 #[(38, 97), (42, 152), (43, 144), (45, 148), (47, 156), (60, 111), (61, 122), (62, 133), (124, 83)], 83) by decide +kernel) (by decide) (by decide) rfl
set_option maxRecDepth 20000 in
theorem i144_1_42 : ex_ X d 144 1 [v0, v1, v2] [.int 42] h Q = ex_ X d 144 153 [v0, v1, v2] [] h Q := R_lsw (off := 152) (show mx_at 144 1 = some (.lookupswitch 168 #[(38, 97), (42, 152), (43, 144), (45, 148), (47, 156), (60, 111), (61, 122), (62, 133), (124, 83)], 83) by decide +kernel) (by decide) (by decide) rfl
set_option maxRecDepth 20000 in
theorem i144_1_43 : ex_ X d 144 1 [v0, v1, v2] [.int 43] h Q = ex_ X d 144 145 [v0, v1, v2] [] h Q := R_lsw (off := 144) (show mx_at 144 1 = some (.lookupswitch 168 #[(38, 97), (42, 152), (43, 144), (45, 148), (47, 156), (60, 111), (61, 122), (62, 133), (124, 83)], 83) by decide +kernel) (by decide) (by decide) rfl
set_option maxRecDepth 20000 in
theorem i144_1_45 : ex_ X d 144 1 [v0, v1, v2] [.int 45] h Q = ex_ X d 144 149 [v0, v1, v2] [] h Q := R_lsw (off := 148) (show mx_at 144 1 = some (.lookupswitch 168 #[(38, 97), (42, 152), (43, 144), (45, 148), (47, 156), (60, 111), (61, 122), (62, 133), (124, 83)], 83) by decide +kernel) (by decide) (by decide) rfl
set_option maxRecDepth 20000 in
theorem i144_1_47 : ex_ X d 144 1 [v0, v1, v2] [.int 47] h Q = ex_ X d 144 157 [v0, v1, v2] [] h Q := R_lsw (off := 156) (show mx_at 144 1 = some (.lookupswitch 168 #[(38, 97), (42, 152), (43, 144), (45, 148), (47, 156), (60, 111), (61, 122), (62, 133), (124, 83)], 83) by decide +kernel) (by decide) (by decide) rfl
set_option maxRecDepth 20000 in
theorem i144_1_60 : ex_ X d 144 1 [v0, v1, v2] [.int 60] h Q = ex_ X d 144 112 [v0, v1, v2] [] h Q := R_lsw (off := 111) (show mx_at 144 1 = some (.lookupswitch 168 #[(38, 97), (42, 152), (43, 144), (45, 148), (47, 156), (60, 111), (61, 122), (62, 133), (124, 83)], 83) by decide +kernel) (by decide) (by decide) rfl
set_option maxRecDepth 20000 in
theorem i144_1_61 : ex_ X d 144 1 [v0, v1, v2] [.int 61] h Q = ex_ X d 144 123 [v0, v1, v2] [] h Q := R_lsw (off := 122) (show mx_at 144 1 = some (.lookupswitch 168 #[(38, 97), (42, 152), (43, 144), (45, 148), (47, 156), (60, 111), (61, 122), (62, 133), (124, 83)], 83) by decide +kernel) (by decide) (by decide) rfl
set_option maxRecDepth 20000 in
theorem i144_1_62 : ex_ X d 144 1 [v0, v1, v2] [.int 62] h Q = ex_ X d 144 134 [v0, v1, v2] [] h Q := R_lsw (off := 133) (show mx_at 144 1 = some (.lookupswitch 168 #[(38, 97), (42, 152), (43, 144), (45, 148), (47, 156), (60, 111), (61, 122), (62, 133), (124, 83)], 83) by decide +kernel) (by decide) (by decide) rfl
set_option maxRecDepth 20000 in
theorem i144_1_124 : ex_ X d 144 1 [v0, v1, v2] [.int 124] h Q = ex_ X d 144 84 [v0, v1, v2] [] h Q := R_lsw (off := 83) (show mx_at 144 1 = some (.lookupswitch 168 #[(38, 97), (42, 152), (43, 144), (45, 148), (47, 156), (60, 111), (61, 122), (62, 133), (124, 83)], 83) by decide +kernel) (by decide) (by decide) rfl
set_option maxRecDepth 20000 in
theorem i144_1_d (hx : 38 ≠ x.toInt ∧ 42 ≠ x.toInt ∧ 43 ≠ x.toInt ∧ 45 ≠ x.toInt ∧ 47 ≠ x.toInt ∧ 60 ≠ x.toInt ∧ 61 ≠ x.toInt ∧ 62 ≠ x.toInt ∧ 124 ≠ x.toInt) : ex_ X d 144 1 [v0, v1, v2] [.int x] h Q = ex_ X d 144 169 [v0, v1, v2] [] h Q := R_lsw (off := 168) (show mx_at 144 1 = some (.lookupswitch 168 #[(38, 97), (42, 152), (43, 144), (45, 148), (47, 156), (60, 111), (61, 122), (62, 133), (124, 83)], 83) by decide +kernel) (by decide) (by simp [Op.lookupswitch.offset, hx]) rfl
set_option maxRecDepth 20000 in
theorem i144_84 : ex_ X d 144 84 [v0, .int x, v2] [] h Q = ex_ X d 144 85 [v0, .int x, v2] [.int x] h Q := ex_nx (show mx_at 144 84 = some (.iload_n 1, 1) by decide +kernel) rfl
set_option maxRecDepth 20000 in
theorem i144_85 : ex_ X d 144 85 [v0, v1, v2] [.int x] h Q = if ¬ x = 0 then ex_ X d 144 92 [v0, v1, v2] [] h Q else ex_ X d 144 88 [v0, v1, v2] [] h Q := (R_br (show mx_at 144 85 = some (.ifCond .ne 7, 3) by decide +kernel) rfl rfl).trans mx_ite
set_option maxRecDepth 20000 in
theorem i144_88 : ex_ X d 144 88 [v0, v1, .int x] [] h Q = ex_ X d 144 89 [v0, v1, .int x] [.int x] h Q := ex_nx (show mx_at 144 88 = some (.iload_n 2, 1) by decide +kernel) rfl
set_option maxRecDepth 20000 in
theorem i144_89 : ex_ X d 144 89 [v0, v1, v2] [.int x] h Q = if x = 0 then ex_ X d 144 96 [v0, v1, v2] [] h Q else ex_ X d 144 92 [v0, v1, v2] [] h Q := (R_br (show mx_at 144 89 = some (.ifCond .eq 7, 3) by decide +kernel) rfl rfl).trans mx_ite
set_option maxRecDepth 20000 in
theorem i144_92 : ex_ X d 144 92 [v0, v1, v2] [] h Q = ex_ X d 144 93 [v0, v1, v2] [.int 1] h Q := R_iconst (show mx_at 144 92 = some (.iconst 1, 1) by decide +kernel) (by decide)
set_option maxRecDepth 20000 in
theorem i144_93 : ex_ X d 144 93 [v0, v1, v2] [w0] h Q = ex_ X d 144 97 [v0, v1, v2] [w0] h Q := R_to (show mx_at 144 93 = some (.goto 4, 3) by decide +kernel) rfl rfl
set_option maxRecDepth 20000 in
theorem i144_96 : ex_ X d 144 96 [v0, v1, v2] [] h Q = ex_ X d 144 97 [v0, v1, v2] [.int 0] h Q := R_iconst (show mx_at 144 96 = some (.iconst 0, 1) by decide +kernel) (by decide)
set_option maxRecDepth 20000 in
theorem i144_97 : ex_ X d 144 97 [v0, v1, v2] [.int x] h Q = Q (some (.int x)) h := ex_ret (show mx_at 144 97 = some (.ireturn, 1) by decide +kernel) (mx_retI rt144)
set_option maxRecDepth 20000 in
theorem i144_98 : ex_ X d 144 98 [v0, .int x, v2] [] h Q = ex_ X d 144 99 [v0, .int x, v2] [.int x] h Q := ex_nx (show mx_at 144 98 = some (.iload_n 1, 1) by decide +kernel) rfl
set_option maxRecDepth 20000 in
theorem i144_99 : ex_ X d 144 99 [v0, v1, v2] [.int x] h Q = if x = 0 then ex_ X d 144 110 [v0, v1, v2] [] h Q else ex_ X d 144 102 [v0, v1, v2] [] h Q := (R_br (show mx_at 144 99 = some (.ifCond .eq 11, 3) by decide +kernel) rfl rfl).trans mx_ite
set_option maxRecDepth 20000 in
theorem i144_102 : ex_ X d 144 102 [v0, v1, .int x] [] h Q = ex_ X d 144 103 [v0, v1, .int x] [.int x] h Q := ex_nx (show mx_at 144 102 = some (.iload_n 2, 1) by decide +kernel) rfl
set_option maxRecDepth 20000 in
theorem i144_103 : ex_ X d 144 103 [v0, v1, v2] [.int x] h Q = if x = 0 then ex_ X d 144 110 [v0, v1, v2] [] h Q else ex_ X d 144 106 [v0, v1, v2] [] h Q := (R_br (show mx_at 144 103 = some (.ifCond .eq 7, 3) by decide +kernel) rfl rfl).trans mx_ite
set_option maxRecDepth 20000 in
theorem i144_106 : ex_ X d 144 106 [v0, v1, v2] [] h Q = ex_ X d 144 107 [v0, v1, v2] [.int 1] h Q := R_iconst (show mx_at 144 106 = some (.iconst 1, 1) by decide +kernel) (by decide)
set_option maxRecDepth 20000 in
theorem i144_107 : ex_ X d 144 107 [v0, v1, v2] [w0] h Q = ex_ X d 144 111 [v0, v1, v2] [w0] h Q := R_to (show mx_at 144 107 = some (.goto 4, 3) by decide +kernel) rfl rfl
set_option maxRecDepth 20000 in
theorem i144_110 : ex_ X d 144 110 [v0, v1, v2] [] h Q = ex_ X d 144 111 [v0, v1, v2] [.int 0] h Q := R_iconst (show mx_at 144 110 = some (.iconst 0, 1) by decide +kernel) (by decide)
set_option maxRecDepth 20000 in
theorem i144_111 : ex_ X d 144 111 [v0, v1, v2] [.int x] h Q = Q (some (.int x)) h := ex_ret (show mx_at 144 111 = some (.ireturn, 1) by decide +kernel) (mx_retI rt144)
set_option maxRecDepth 20000 in
theorem i144_112 : ex_ X d 144 112 [v0, .int x, v2] [] h Q = ex_ X d 144 113 [v0, .int x, v2] [.int x] h Q := ex_nx (show mx_at 144 112 = some (.iload_n 1, 1) by decide +kernel) rfl
set_option maxRecDepth 20000 in
theorem i144_113 : ex_ X d 144 113 [v0, v1, .int x] [w0] h Q = ex_ X d 144 114 [v0, v1, .int x] [.int x, w0] h Q := ex_nx (show mx_at 144 113 = some (.iload_n 2, 1) by decide +kernel) rfl
set_option maxRecDepth 20000 in
theorem i144_114 : ex_ X d 144 114 [v0, v1, v2] [.int y, .int x] h Q = if y ≤ x then ex_ X d 144 121 [v0, v1, v2] [] h Q else ex_ X d 144 117 [v0, v1, v2] [] h Q := (R_br (show mx_at 144 114 = some (.if_icmp .ge 7, 3) by decide +kernel) rfl rfl).trans mx_ite
set_option maxRecDepth 20000 in
theorem i144_117 : ex_ X d 144 117 [v0, v1, v2] [] h Q = ex_ X d 144 118 [v0, v1, v2] [.int 1] h Q := R_iconst (show mx_at 144 117 = some (.iconst 1, 1) by decide +kernel) (by decide)
set_option maxRecDepth 20000 in
theorem i144_118 : ex_ X d 144 118 [v0, v1, v2] [w0] h Q = ex_ X d 144 122 [v0, v1, v2] [w0] h Q := R_to (show mx_at 144 118 = some (.goto 4, 3) by decide +kernel) rfl rfl
set_option maxRecDepth 20000 in
theorem i144_121 : ex_ X d 144 121 [v0, v1, v2] [] h Q = ex_ X d 144 122 [v0, v1, v2] [.int 0] h Q := R_iconst (show mx_at 144 121 = some (.iconst 0, 1) by decide +kernel) (by decide)
set_option maxRecDepth 20000 in
theorem i144_122 : ex_ X d 144 122 [v0, v1, v2] [.int x] h Q = Q (some (.int x)) h := ex_ret (show mx_at 144 122 = some (.ireturn, 1) by decide +kernel) (mx_retI rt144)
set_option maxRecDepth 20000 in
theorem i144_123 : ex_ X d 144 123 [v0, .int x, v2] [] h Q = ex_ X d 144 124 [v0, .int x, v2] [.int x] h Q := ex_nx (show mx_at 144 123 = some (.iload_n 1, 1) by decide +kernel) rfl
set_option maxRecDepth 20000 in
theorem i144_124 : ex_ X d 144 124 [v0, v1, .int x] [w0] h Q = ex_ X d 144 125 [v0, v1, .int x] [.int x, w0] h Q := ex_nx (show mx_at 144 124 = some (.iload_n 2, 1) by decide +kernel) rfl
set_option maxRecDepth 20000 in
theorem i144_125 : ex_ X d 144 125 [v0, v1, v2] [.int y, .int x] h Q = if ¬ x = y then ex_ X d 144 132 [v0, v1, v2] [] h Q else ex_ X d 144 128 [v0, v1, v2] [] h Q := (R_br (show mx_at 144 125 = some (.if_icmp .ne 7, 3) by decide +kernel) rfl rfl).trans mx_ite
set_option maxRecDepth 20000 in
theorem i144_128 : ex_ X d 144 128 [v0, v1, v2] [] h Q = ex_ X d 144 129 [v0, v1, v2] [.int 1] h Q := R_iconst (show mx_at 144 128 = some (.iconst 1, 1) by decide +kernel) (by decide)
set_option maxRecDepth 20000 in
theorem i144_129 : ex_ X d 144 129 [v0, v1, v2] [w0] h Q = ex_ X d 144 133 [v0, v1, v2] [w0] h Q := R_to (show mx_at 144 129 = some (.goto 4, 3) by decide +kernel) rfl rfl
set_option maxRecDepth 20000 in
theorem i144_132 : ex_ X d 144 132 [v0, v1, v2] [] h Q = ex_ X d 144 133 [v0, v1, v2] [.int 0] h Q := R_iconst (show mx_at 144 132 = some (.iconst 0, 1) by decide +kernel) (by decide)
set_option maxRecDepth 20000 in
theorem i144_133 : ex_ X d 144 133 [v0, v1, v2] [.int x] h Q = Q (some (.int x)) h := ex_ret (show mx_at 144 133 = some (.ireturn, 1) by decide +kernel) (mx_retI rt144)
set_option maxRecDepth 20000 in
theorem i144_134 : ex_ X d 144 134 [v0, .int x, v2] [] h Q = ex_ X d 144 135 [v0, .int x, v2] [.int x] h Q := ex_nx (show mx_at 144 134 = some (.iload_n 1, 1) by decide +kernel) rfl
set_option maxRecDepth 20000 in
theorem i144_135 : ex_ X d 144 135 [v0, v1, .int x] [w0] h Q = ex_ X d 144 136 [v0, v1, .int x] [.int x, w0] h Q := ex_nx (show mx_at 144 135 = some (.iload_n 2, 1) by decide +kernel) rfl
set_option maxRecDepth 20000 in
theorem i144_136 : ex_ X d 144 136 [v0, v1, v2] [.int y, .int x] h Q = if x ≤ y then ex_ X d 144 143 [v0, v1, v2] [] h Q else ex_ X d 144 139 [v0, v1, v2] [] h Q := (R_br (show mx_at 144 136 = some (.if_icmp .le 7, 3) by decide +kernel) rfl rfl).trans mx_ite
set_option maxRecDepth 20000 in
theorem i144_139 : ex_ X d 144 139 [v0, v1, v2] [] h Q = ex_ X d 144 140 [v0, v1, v2] [.int 1] h Q := R_iconst (show mx_at 144 139 = some (.iconst 1, 1) by decide +kernel) (by decide)
set_option maxRecDepth 20000 in
theorem i144_140 : ex_ X d 144 140 [v0, v1, v2] [w0] h Q = ex_ X d 144 144 [v0, v1, v2] [w0] h Q := R_to (show mx_at 144 140 = some (.goto 4, 3) by decide +kernel) rfl rfl
set_option maxRecDepth 20000 in
theorem i144_143 : ex_ X d 144 143 [v0, v1, v2] [] h Q = ex_ X d 144 144 [v0, v1, v2] [.int 0] h Q := R_iconst (show mx_at 144 143 = some (.iconst 0, 1) by decide +kernel) (by decide)
set_option maxRecDepth 20000 in
theorem i144_144 : ex_ X d 144 144 [v0, v1, v2] [.int x] h Q = Q (some (.int x)) h := ex_ret (show mx_at 144 144 = some (.ireturn, 1) by decide +kernel) (mx_retI rt144)
set_option maxRecDepth 20000 in
theorem i144_145 : ex_ X d 144 145 [v0, .int x, v2] [] h Q = ex_ X d 144 146 [v0, .int x, v2] [.int x] h Q := ex_nx (show mx_at 144 145 = some (.iload_n 1, 1) by decide +kernel) rfl
set_option maxRecDepth 20000 in
theorem i144_146 : ex_ X d 144 146 [v0, v1, .int x] [w0] h Q = ex_ X d 144 147 [v0, v1, .int x] [.int x, w0] h Q := ex_nx (show mx_at 144 146 = some (.iload_n 2, 1) by decide +kernel) rfl
set_option maxRecDepth 20000 in
theorem i144_147 : ex_ X d 144 147 [v0, v1, v2] [.int y, .int x] h Q = ex_ X d 144 148 [v0, v1, v2] [.int (x + y)] h Q := ex_nx (show mx_at 144 147 = some (.iadd, 1) by decide +kernel) rfl
set_option maxRecDepth 20000 in
theorem i144_148 : ex_ X d 144 148 [v0, v1, v2] [.int x] h Q = Q (some (.int x)) h := ex_ret (show mx_at 144 148 = some (.ireturn, 1) by decide +kernel) (mx_retI rt144)
set_option maxRecDepth 20000 in
theorem i144_149 : ex_ X d 144 149 [v0, .int x, v2] [] h Q = ex_ X d 144 150 [v0, .int x, v2] [.int x] h Q := ex_nx (show mx_at 144 149 = some (.iload_n 1, 1) by decide +kernel) rfl
set_option maxRecDepth 20000 in
theorem i144_150 : ex_ X d 144 150 [v0, v1, .int x] [w0] h Q = ex_ X d 144 151 [v0, v1, .int x] [.int x, w0] h Q := ex_nx (show mx_at 144 150 = some (.iload_n 2, 1) by decide +kernel) rfl
set_option maxRecDepth 20000 in
theorem i144_151 : ex_ X d 144 151 [v0, v1, v2] [.int y, .int x] h Q = ex_ X d 144 152 [v0, v1, v2] [.int (x - y)] h Q := ex_nx (show mx_at 144 151 = some (.isub, 1) by decide +kernel) rfl
set_option maxRecDepth 20000 in
theorem i144_152 : ex_ X d 144 152 [v0, v1, v2] [.int x] h Q = Q (some (.int x)) h := ex_ret (show mx_at 144 152 = some (.ireturn, 1) by decide +kernel) (mx_retI rt144)
set_option maxRecDepth 20000 in
theorem i144_153 : ex_ X d 144 153 [v0, .int x, v2] [] h Q = ex_ X d 144 154 [v0, .int x, v2] [.int x] h Q := ex_nx (show mx_at 144 153 = some (.iload_n 1, 1) by decide +kernel) rfl
set_option maxRecDepth 20000 in
theorem i144_154 : ex_ X d 144 154 [v0, v1, .int x] [w0] h Q = ex_ X d 144 155 [v0, v1, .int x] [.int x, w0] h Q := ex_nx (show mx_at 144 154 = some (.iload_n 2, 1) by decide +kernel) rfl
set_option maxRecDepth 20000 in
theorem i144_155 : ex_ X d 144 155 [v0, v1, v2] [.int y, .int x] h Q = ex_ X d 144 156 [v0, v1, v2] [.int (x * y)] h Q := ex_nx (show mx_at 144 155 = some (.imul, 1) by decide +kernel) rfl
set_option maxRecDepth 20000 in
theorem i144_156 : ex_ X d 144 156 [v0, v1, v2] [.int x] h Q = Q (some (.int x)) h := ex_ret (show mx_at 144 156 = some (.ireturn, 1) by decide +kernel) (mx_retI rt144)
set_option maxRecDepth 20000 in
theorem i144_157 : ex_ X d 144 157 [v0, v1, .int x] [] h Q = ex_ X d 144 158 [v0, v1, .int x] [.int x] h Q := ex_nx (show mx_at 144 157 = some (.iload_n 2, 1) by decide +kernel) rfl
set_option maxRecDepth 20000 in
theorem i144_158 : ex_ X d 144 158 [v0, v1, v2] [.int x] h Q = if ¬ x = 0 then ex_ X d 144 165 [v0, v1, v2] [] h Q else ex_ X d 144 161 [v0, v1, v2] [] h Q := (R_br (show mx_at 144 158 = some (.ifCond .ne 7, 3) by decide +kernel) rfl rfl).trans mx_ite
set_option maxRecDepth 20000 in
theorem i144_161 : ex_ X d 144 161 [v0, v1, v2] [] h Q = ex_ X d 144 162 [v0, v1, v2] [.int 0] h Q := R_iconst (show mx_at 144 161 = some (.iconst 0, 1) by decide +kernel) (by decide)
set_option maxRecDepth 20000 in
theorem i144_162 : ex_ X d 144 162 [v0, v1, v2] [w0] h Q = ex_ X d 144 168 [v0, v1, v2] [w0] h Q := R_to (show mx_at 144 162 = some (.goto 6, 3) by decide +kernel) rfl rfl
set_option maxRecDepth 20000 in
theorem i144_165 : ex_ X d 144 165 [v0, .int x, v2] [] h Q = ex_ X d 144 166 [v0, .int x, v2] [.int x] h Q := ex_nx (show mx_at 144 165 = some (.iload_n 1, 1) by decide +kernel) rfl
set_option maxRecDepth 20000 in
theorem i144_166 : ex_ X d 144 166 [v0, v1, .int x] [w0] h Q = ex_ X d 144 167 [v0, v1, .int x] [.int x, w0] h Q := ex_nx (show mx_at 144 166 = some (.iload_n 2, 1) by decide +kernel) rfl
set_option maxRecDepth 20000 in
theorem i144_167 : ex_ X d 144 167 [v0, v1, v2] [.int y, .int x] h Q = (y ≠ 0 ∧ ex_ X d 144 168 [v0, v1, v2] [.int (x / y)] h Q) := R_div (show mx_at 144 167 = some (.idiv, 1) by decide +kernel)
set_option maxRecDepth 20000 in
theorem i144_168 : ex_ X d 144 168 [v0, v1, v2] [.int x] h Q = Q (some (.int x)) h := ex_ret (show mx_at 144 168 = some (.ireturn, 1) by decide +kernel) (mx_retI rt144)
set_option maxRecDepth 20000 in
theorem i144_169 : ex_ X d 144 169 [v0, v1, .int x] [] h Q = ex_ X d 144 170 [v0, v1, .int x] [.int x] h Q := ex_nx (show mx_at 144 169 = some (.iload_n 2, 1) by decide +kernel) rfl
set_option maxRecDepth 20000 in
theorem i144_170 : ex_ X d 144 170 [v0, v1, v2] [.int x] h Q = if ¬ x = 0 then ex_ X d 144 177 [v0, v1, v2] [] h Q else ex_ X d 144 173 [v0, v1, v2] [] h Q := (R_br (show mx_at 144 170 = some (.ifCond .ne 7, 3) by decide +kernel) rfl rfl).trans mx_ite
set_option maxRecDepth 20000 in
theorem i144_173 : ex_ X d 144 173 [v0, v1, v2] [] h Q = ex_ X d 144 174 [v0, v1, v2] [.int 0] h Q := R_iconst (show mx_at 144 173 = some (.iconst 0, 1) by decide +kernel) (by decide)
set_option maxRecDepth 20000 in
theorem i144_174 : ex_ X d 144 174 [v0, v1, v2] [w0] h Q = ex_ X d 144 180 [v0, v1, v2] [w0] h Q := R_to (show mx_at 144 174 = some (.goto 6, 3) by decide +kernel) rfl rfl
set_option maxRecDepth 20000 in
theorem i144_177 : ex_ X d 144 177 [v0, .int x, v2] [] h Q = ex_ X d 144 178 [v0, .int x, v2] [.int x] h Q := ex_nx (show mx_at 144 177 = some (.iload_n 1, 1) by decide +kernel) rfl
set_option maxRecDepth 20000 in
theorem i144_178 : ex_ X d 144 178 [v0, v1, .int x] [w0] h Q = ex_ X d 144 179 [v0, v1, .int x] [.int x, w0] h Q := ex_nx (show mx_at 144 178 = some (.iload_n 2, 1) by decide +kernel) rfl
set_option maxRecDepth 20000 in
theorem i144_179 : ex_ X d 144 179 [v0, v1, v2] [.int y, .int x] h Q = (y ≠ 0 ∧ ex_ X d 144 180 [v0, v1, v2] [.int (x - x / y * y)] h Q) := R_rem (show mx_at 144 179 = some (.irem, 1) by decide +kernel)
set_option maxRecDepth 20000 in
theorem i144_180 : ex_ X d 144 180 [v0, v1, v2] [.int x] h Q = Q (some (.int x)) h := ex_ret (show mx_at 144 180 = some (.ireturn, 1) by decide +kernel) (mx_retI rt144)
theorem i144_e : ev_ X d 144 [.int x0, .int x1, .int x2] h Q = ex_ X d 144 0 [.int x0, .int x1, .int x2] [] h Q := by rw [ev_, ml144]; rfl
-- 145 X12_worked
set_option maxRecDepth 20000 in
theorem i145_0 : ex_ X d 145 0 [v0, v1, v2, v3, v4, v5] [] h Q = ex_ X d 145 1 [v0, v1, v2, v3, v4, v5] [.int 0] h Q := R_iconst (show mx_at 145 0 = some (.iconst 0, 1) by decide +kernel) (by decide)
set_option maxRecDepth 20000 in
theorem i145_1 : ex_ X d 145 1 [v0, v1, v2, v3, v4, v5] [.int x] h Q = (mx_nl v2 = true ∧ ex_ X d 145 2 [v0, v1, v2, .int x, v4, v5] [] h Q) := mx_t1 (R_st (ok := mx_isI) (n := 3) (w := 1) (show mx_at 145 1 = some (.istore_n 3, 1) by decide +kernel) (fun _ _ => rfl) (Nat.le_of_ble_eq_true rfl)) rfl
set_option maxRecDepth 20000 in
theorem i145_2 : ex_ X d 145 2 [v0, .int x, v2, v3, v4, v5] [] h Q = ex_ X d 145 3 [v0, .int x, v2, v3, v4, v5] [.int x] h Q := ex_nx (show mx_at 145 2 = some (.iload_n 1, 1) by decide +kernel) rfl
set_option maxRecDepth 20000 in
theorem i145_3 : ex_ X d 145 3 [v0, v1, v2, v3, v4, v5] [.int x] h Q = (mx_nl v3 = true ∧ ex_ X d 145 5 [v0, v1, v2, v3, .int x, v5] [] h Q) := mx_t1 (R_st (ok := mx_isI) (n := 4) (w := 2) (show mx_at 145 3 = some (.istore 4, 2) by decide +kernel) (fun _ _ => rfl) (Nat.le_of_ble_eq_true rfl)) rfl
set_option maxRecDepth 20000 in
theorem i145_5 : ex_ X d 145 5 [v0, v1, v2, v3, .int x, v5] [] h Q = ex_ X d 145 7 [v0, v1, v2, v3, .int x, v5] [.int x] h Q := ex_nx (show mx_at 145 5 = some (.iload 4, 2) by decide +kernel) rfl
set_option maxRecDepth 20000 in
theorem i145_7 : ex_ X d 145 7 [v0, .int x, v2, v3, v4, v5] [w0] h Q = ex_ X d 145 8 [v0, .int x, v2, v3, v4, v5] [.int x, w0] h Q := ex_nx (show mx_at 145 7 = some (.iload_n 1, 1) by decide +kernel) rfl
set_option maxRecDepth 20000 in
theorem i145_8 : ex_ X d 145 8 [v0, v1, .int x, v3, v4, v5] [w0, w1] h Q = ex_ X d 145 9 [v0, v1, .int x, v3, v4, v5] [.int x, w0, w1] h Q := ex_nx (show mx_at 145 8 = some (.iload_n 2, 1) by decide +kernel) rfl
set_option maxRecDepth 20000 in
theorem i145_9 : ex_ X d 145 9 [v0, v1, v2, v3, v4, v5] [.int y, .int x, w0] h Q = ex_ X d 145 10 [v0, v1, v2, v3, v4, v5] [.int (x + y), w0] h Q := ex_nx (show mx_at 145 9 = some (.iadd, 1) by decide +kernel) rfl
set_option maxRecDepth 20000 in
theorem i145_10 : ex_ X d 145 10 [v0, v1, v2, v3, v4, v5] [.int y, .int x] h Q = if y ≤ x then ex_ X d 145 141 [v0, v1, v2, v3, v4, v5] [] h Q else ex_ X d 145 13 [v0, v1, v2, v3, v4, v5] [] h Q := (R_br (show mx_at 145 10 = some (.if_icmp .ge 131, 3) by decide +kernel) rfl rfl).trans mx_ite
set_option maxRecDepth 20000 in
theorem i145_13 : ex_ X d 145 13 [.ref a, v1, v2, v3, v4, v5] [] h Q = ex_ X d 145 14 [.ref a, v1, v2, v3, v4, v5] [.ref a] h Q := ex_nx (show mx_at 145 13 = some (.aload_n 0, 1) by decide +kernel) rfl
set_option maxRecDepth 20000 in
theorem i145_14 : ex_ X d 145 14 [v0, v1, v2, v3, v4, v5] [.ref a] h Q = (gk_ h a 0 [(12, 0)] = true ∧ ex_ X d 145 17 [v0, v1, v2, v3, v4, v5] [gv_ h a 0] h Q) := R_getf (show mx_at 145 14 = some (.getfield 7, 3) by decide +kernel) (mx_fdo ow145 fd120007)
set_option maxRecDepth 20000 in
theorem i145_17 : ex_ X d 145 17 [v0, v1, v2, v3, .int x, v5] [w0] h Q = ex_ X d 145 19 [v0, v1, v2, v3, .int x, v5] [.int x, w0] h Q := ex_nx (show mx_at 145 17 = some (.iload 4, 2) by decide +kernel) rfl
set_option maxRecDepth 20000 in
theorem i145_19 : ex_ X d 145 19 [v0, v1, v2, v3, v4, v5] [.int i, .ref a] h Q = (ik_ h a i = true ∧ ex_ X d 145 20 [v0, v1, v2, v3, v4, v5] [.int (ia_ h a i)] h Q) := R_iald (show mx_at 145 19 = some (.iaload, 1) by decide +kernel)
set_option maxRecDepth 20000 in
theorem i145_20 : ex_ X d 145 20 [v0, v1, v2, v3, v4, v5] [.int x] h Q = (mx_nl v4 = true ∧ ex_ X d 145 22 [v0, v1, v2, v3, v4, .int x] [] h Q) := mx_t1 (R_st (ok := mx_isI) (n := 5) (w := 2) (show mx_at 145 20 = some (.istore 5, 2) by decide +kernel) (fun _ _ => rfl) (Nat.le_of_ble_eq_true rfl)) rfl
set_option maxRecDepth 20000 in
theorem i145_22 : ex_ X d 145 22 [v0, v1, v2, v3, v4, .int x] [] h Q = ex_ X d 145 24 [v0, v1, v2, v3, v4, .int x] [.int x] h Q := ex_nx (show mx_at 145 22 = some (.iload 5, 2) by decide +kernel) rfl
set_option maxRecDepth 20000 in
theorem i145_24 : ex_ X d 145 24 [v0, v1, v2, v3, v4, v5] [w0] h Q = ex_ X d 145 27 [v0, v1, v2, v3, v4, v5] [.int 20000, w0] h Q := R_sipush (show mx_at 145 24 = some (.sipush 20000, 3) by decide +kernel) (by decide)
set_option maxRecDepth 20000 in
theorem i145_27 : ex_ X d 145 27 [v0, v1, v2, v3, v4, v5] [.int y, .int x] h Q = if y ≤ x then ex_ X d 145 66 [v0, v1, v2, v3, v4, v5] [] h Q else ex_ X d 145 30 [v0, v1, v2, v3, v4, v5] [] h Q := (R_br (show mx_at 145 27 = some (.if_icmp .ge 39, 3) by decide +kernel) rfl rfl).trans mx_ite
set_option maxRecDepth 20000 in
theorem i145_30 : ex_ X d 145 30 [.ref a, v1, v2, v3, v4, v5] [] h Q = ex_ X d 145 31 [.ref a, v1, v2, v3, v4, v5] [.ref a] h Q := ex_nx (show mx_at 145 30 = some (.aload_n 0, 1) by decide +kernel) rfl
set_option maxRecDepth 20000 in
theorem i145_31 : ex_ X d 145 31 [v0, v1, v2, v3, v4, v5] [.ref a] h Q = (gk_ h a 14 [(12, 0)] = true ∧ ex_ X d 145 34 [v0, v1, v2, v3, v4, v5] [gv_ h a 14] h Q) := R_getf (show mx_at 145 31 = some (.getfield 28, 3) by decide +kernel) (mx_fdo ow145 fd120028)
set_option maxRecDepth 20000 in
theorem i145_34 : ex_ X d 145 34 [v0, v1, v2, .int x, v4, v5] [w0] h Q = ex_ X d 145 35 [v0, v1, v2, .int x, v4, v5] [.int x, w0] h Q := ex_nx (show mx_at 145 34 = some (.iload_n 3, 1) by decide +kernel) rfl
set_option maxRecDepth 20000 in
theorem i145_35 : ex_ X d 145 35 [v0, v1, v2, v3, v4, .int x] [w0, w1] h Q = ex_ X d 145 37 [v0, v1, v2, v3, v4, .int x] [.int x, w0, w1] h Q := ex_nx (show mx_at 145 35 = some (.iload 5, 2) by decide +kernel) rfl
set_option maxRecDepth 20000 in
theorem i145_37 : ex_ X d 145 37 [v0, v1, v2, v3, v4, v5] [w0, w1, w2] h Q = ex_ X d 145 40 [v0, v1, v2, v3, v4, v5] [.int 10000, w0, w1, w2] h Q := R_sipush (show mx_at 145 37 = some (.sipush 10000, 3) by decide +kernel) (by decide)
set_option maxRecDepth 20000 in
theorem i145_40 : ex_ X d 145 40 [v0, v1, v2, v3, v4, v5] [.int y, .int x, w0, w1] h Q = if y ≤ x then ex_ X d 145 48 [v0, v1, v2, v3, v4, v5] [w0, w1] h Q else ex_ X d 145 43 [v0, v1, v2, v3, v4, v5] [w0, w1] h Q := (R_br (show mx_at 145 40 = some (.if_icmp .ge 8, 3) by decide +kernel) rfl rfl).trans mx_ite
set_option maxRecDepth 20000 in
theorem i145_43 : ex_ X d 145 43 [v0, v1, v2, v3, v4, .int x] [w0, w1] h Q = ex_ X d 145 45 [v0, v1, v2, v3, v4, .int x] [.int x, w0, w1] h Q := ex_nx (show mx_at 145 43 = some (.iload 5, 2) by decide +kernel) rfl
set_option maxRecDepth 20000 in
theorem i145_45 : ex_ X d 145 45 [v0, v1, v2, v3, v4, v5] [w0, w1, w2] h Q = ex_ X d 145 59 [v0, v1, v2, v3, v4, v5] [w0, w1, w2] h Q := R_to (show mx_at 145 45 = some (.goto 14, 3) by decide +kernel) rfl rfl
set_option maxRecDepth 20000 in
theorem i145_48 : ex_ X d 145 48 [.ref a, v1, v2, v3, v4, v5] [w0, w1] h Q = ex_ X d 145 49 [.ref a, v1, v2, v3, v4, v5] [.ref a, w0, w1] h Q := ex_nx (show mx_at 145 48 = some (.aload_n 0, 1) by decide +kernel) rfl
set_option maxRecDepth 20000 in
theorem i145_49 : ex_ X d 145 49 [v0, v1, v2, v3, v4, v5] [.ref a, w0, w1] h Q = (gk_ h a 11 [(12, 0)] = true ∧ ex_ X d 145 52 [v0, v1, v2, v3, v4, v5] [gv_ h a 11, w0, w1] h Q) := R_getf (show mx_at 145 49 = some (.getfield 22, 3) by decide +kernel) (mx_fdo ow145 fd120022)
set_option maxRecDepth 20000 in
theorem i145_52 : ex_ X d 145 52 [v0, v1, v2, v3, v4, .int x] [w0, w1, w2] h Q = ex_ X d 145 54 [v0, v1, v2, v3, v4, .int x] [.int x, w0, w1, w2] h Q := ex_nx (show mx_at 145 52 = some (.iload 5, 2) by decide +kernel) rfl
set_option maxRecDepth 20000 in
theorem i145_54 : ex_ X d 145 54 [v0, v1, v2, v3, v4, v5] [w0, w1, w2, w3] h Q = ex_ X d 145 57 [v0, v1, v2, v3, v4, v5] [.int 10000, w0, w1, w2, w3] h Q := R_sipush (show mx_at 145 54 = some (.sipush 10000, 3) by decide +kernel) (by decide)
set_option maxRecDepth 20000 in
theorem i145_57 : ex_ X d 145 57 [v0, v1, v2, v3, v4, v5] [.int y, .int x, w0, w1, w2] h Q = ex_ X d 145 58 [v0, v1, v2, v3, v4, v5] [.int (x - y), w0, w1, w2] h Q := ex_nx (show mx_at 145 57 = some (.isub, 1) by decide +kernel) rfl
set_option maxRecDepth 20000 in
theorem i145_58 : ex_ X d 145 58 [v0, v1, v2, v3, v4, v5] [.int i, .ref a, w0, w1] h Q = (ik_ h a i = true ∧ ex_ X d 145 59 [v0, v1, v2, v3, v4, v5] [.int (ia_ h a i), w0, w1] h Q) := R_iald (show mx_at 145 58 = some (.iaload, 1) by decide +kernel)
set_option maxRecDepth 20000 in
theorem i145_59 : ex_ X d 145 59 [v0, v1, v2, v3, v4, v5] [.int x, .int i, .ref a] h Q = (ik_ h a i = true ∧ ex_ X d 145 60 [v0, v1, v2, v3, v4, v5] [] (is_ h a i x) Q) := R_iast (show mx_at 145 59 = some (.iastore, 1) by decide +kernel)
set_option maxRecDepth 20000 in
theorem i145_60 : ex_ X d 145 60 [v0, v1, v2, .int x, v4, v5] [] h Q = (mx_nl v2 = true ∧ ex_ X d 145 63 [v0, v1, v2, .int (x + 1), v4, v5] [] h Q) := R_iinc (n := 3) (c := 1) (show mx_at 145 60 = some (.iinc 3 1, 3) by decide +kernel) rfl
set_option maxRecDepth 20000 in
theorem i145_63 : ex_ X d 145 63 [v0, v1, v2, v3, v4, v5] [] h Q = ex_ X d 145 135 [v0, v1, v2, v3, v4, v5] [] h Q := R_to (show mx_at 145 63 = some (.goto 72, 3) by decide +kernel) rfl rfl
set_option maxRecDepth 20000 in
theorem i145_66 : ex_ X d 145 66 [v0, v1, v2, v3, v4, .int x] [] h Q = ex_ X d 145 68 [v0, v1, v2, v3, v4, .int x] [.int x] h Q := ex_nx (show mx_at 145 66 = some (.iload 5, 2) by decide +kernel) rfl
set_option maxRecDepth 20000 in
theorem i145_68 : ex_ X d 145 68 [v0, v1, v2, v3, v4, v5] [w0] h Q = ex_ X d 145 71 [v0, v1, v2, v3, v4, v5] [.int 20033, w0] h Q := R_sipush (show mx_at 145 68 = some (.sipush 20033, 3) by decide +kernel) (by decide)
set_option maxRecDepth 20000 in
theorem i145_71 : ex_ X d 145 71 [v0, v1, v2, v3, v4, v5] [.int y, .int x] h Q = if ¬ x = y then ex_ X d 145 101 [v0, v1, v2, v3, v4, v5] [] h Q else ex_ X d 145 74 [v0, v1, v2, v3, v4, v5] [] h Q := (R_br (show mx_at 145 71 = some (.if_icmp .ne 30, 3) by decide +kernel) rfl rfl).trans mx_ite
set_option maxRecDepth 20000 in
theorem i145_74 : ex_ X d 145 74 [.ref a, v1, v2, v3, v4, v5] [] h Q = ex_ X d 145 75 [.ref a, v1, v2, v3, v4, v5] [.ref a] h Q := ex_nx (show mx_at 145 74 = some (.aload_n 0, 1) by decide +kernel) rfl
set_option maxRecDepth 20000 in
theorem i145_75 : ex_ X d 145 75 [v0, v1, v2, v3, v4, v5] [.ref a] h Q = (gk_ h a 14 [(12, 0)] = true ∧ ex_ X d 145 78 [v0, v1, v2, v3, v4, v5] [gv_ h a 14] h Q) := R_getf (show mx_at 145 75 = some (.getfield 28, 3) by decide +kernel) (mx_fdo ow145 fd120028)
set_option maxRecDepth 20000 in
theorem i145_78 : ex_ X d 145 78 [v0, v1, v2, .int x, v4, v5] [w0] h Q = ex_ X d 145 79 [v0, v1, v2, .int x, v4, v5] [.int x, w0] h Q := ex_nx (show mx_at 145 78 = some (.iload_n 3, 1) by decide +kernel) rfl
set_option maxRecDepth 20000 in
theorem i145_79 : ex_ X d 145 79 [v0, v1, v2, v3, v4, v5] [w0, w1] h Q = ex_ X d 145 80 [v0, v1, v2, v3, v4, v5] [.int 1, w0, w1] h Q := R_iconst (show mx_at 145 79 = some (.iconst 1, 1) by decide +kernel) (by decide)
set_option maxRecDepth 20000 in
theorem i145_80 : ex_ X d 145 80 [v0, v1, v2, v3, v4, v5] [.int y, .int x, w0] h Q = ex_ X d 145 81 [v0, v1, v2, v3, v4, v5] [.int (x - y), w0] h Q := ex_nx (show mx_at 145 80 = some (.isub, 1) by decide +kernel) rfl
set_option maxRecDepth 20000 in
theorem i145_81 : ex_ X d 145 81 [.ref a, v1, v2, v3, v4, v5] [w0, w1] h Q = ex_ X d 145 82 [.ref a, v1, v2, v3, v4, v5] [.ref a, w0, w1] h Q := ex_nx (show mx_at 145 81 = some (.aload_n 0, 1) by decide +kernel) rfl
set_option maxRecDepth 20000 in
theorem i145_82 : ex_ X d 145 82 [v0, v1, v2, v3, v4, v5] [.ref a, w0, w1] h Q = (gk_ h a 14 [(12, 0)] = true ∧ ex_ X d 145 85 [v0, v1, v2, v3, v4, v5] [gv_ h a 14, w0, w1] h Q) := R_getf (show mx_at 145 82 = some (.getfield 28, 3) by decide +kernel) (mx_fdo ow145 fd120028)
set_option maxRecDepth 20000 in
theorem i145_85 : ex_ X d 145 85 [v0, v1, v2, .int x, v4, v5] [w0, w1, w2] h Q = ex_ X d 145 86 [v0, v1, v2, .int x, v4, v5] [.int x, w0, w1, w2] h Q := ex_nx (show mx_at 145 85 = some (.iload_n 3, 1) by decide +kernel) rfl
set_option maxRecDepth 20000 in
theorem i145_86 : ex_ X d 145 86 [v0, v1, v2, v3, v4, v5] [w0, w1, w2, w3] h Q = ex_ X d 145 87 [v0, v1, v2, v3, v4, v5] [.int 1, w0, w1, w2, w3] h Q := R_iconst (show mx_at 145 86 = some (.iconst 1, 1) by decide +kernel) (by decide)
set_option maxRecDepth 20000 in
theorem i145_87 : ex_ X d 145 87 [v0, v1, v2, v3, v4, v5] [.int y, .int x, w0, w1, w2] h Q = ex_ X d 145 88 [v0, v1, v2, v3, v4, v5] [.int (x - y), w0, w1, w2] h Q := ex_nx (show mx_at 145 87 = some (.isub, 1) by decide +kernel) rfl
set_option maxRecDepth 20000 in
theorem i145_88 : ex_ X d 145 88 [v0, v1, v2, v3, v4, v5] [.int i, .ref a, w0, w1] h Q = (ik_ h a i = true ∧ ex_ X d 145 89 [v0, v1, v2, v3, v4, v5] [.int (ia_ h a i), w0, w1] h Q) := R_iald (show mx_at 145 88 = some (.iaload, 1) by decide +kernel)
set_option maxRecDepth 20000 in
theorem i145_89 : ex_ X d 145 89 [v0, v1, v2, v3, v4, v5] [.int x, w0, w1] h Q = if ¬ x = 0 then ex_ X d 145 96 [v0, v1, v2, v3, v4, v5] [w0, w1] h Q else ex_ X d 145 92 [v0, v1, v2, v3, v4, v5] [w0, w1] h Q := (R_br (show mx_at 145 89 = some (.ifCond .ne 7, 3) by decide +kernel) rfl rfl).trans mx_ite
set_option maxRecDepth 20000 in
theorem i145_92 : ex_ X d 145 92 [v0, v1, v2, v3, v4, v5] [w0, w1] h Q = ex_ X d 145 93 [v0, v1, v2, v3, v4, v5] [.int 1, w0, w1] h Q := R_iconst (show mx_at 145 92 = some (.iconst 1, 1) by decide +kernel) (by decide)
set_option maxRecDepth 20000 in
theorem i145_93 : ex_ X d 145 93 [v0, v1, v2, v3, v4, v5] [w0, w1, w2] h Q = ex_ X d 145 97 [v0, v1, v2, v3, v4, v5] [w0, w1, w2] h Q := R_to (show mx_at 145 93 = some (.goto 4, 3) by decide +kernel) rfl rfl
set_option maxRecDepth 20000 in
theorem i145_96 : ex_ X d 145 96 [v0, v1, v2, v3, v4, v5] [w0, w1] h Q = ex_ X d 145 97 [v0, v1, v2, v3, v4, v5] [.int 0, w0, w1] h Q := R_iconst (show mx_at 145 96 = some (.iconst 0, 1) by decide +kernel) (by decide)
set_option maxRecDepth 20000 in
theorem i145_97 : ex_ X d 145 97 [v0, v1, v2, v3, v4, v5] [.int x, .int i, .ref a] h Q = (ik_ h a i = true ∧ ex_ X d 145 98 [v0, v1, v2, v3, v4, v5] [] (is_ h a i x) Q) := R_iast (show mx_at 145 97 = some (.iastore, 1) by decide +kernel)
set_option maxRecDepth 20000 in
theorem i145_98 : ex_ X d 145 98 [v0, v1, v2, v3, v4, v5] [] h Q = ex_ X d 145 135 [v0, v1, v2, v3, v4, v5] [] h Q := R_to (show mx_at 145 98 = some (.goto 37, 3) by decide +kernel) rfl rfl
set_option maxRecDepth 20000 in
theorem i145_101 : ex_ X d 145 101 [v0, v1, v2, .int x, v4, v5] [] h Q = (mx_nl v2 = true ∧ ex_ X d 145 104 [v0, v1, v2, .int (x + (-1)), v4, v5] [] h Q) := (R_iinc (n := 3) (c := (-1)) (show mx_at 145 101 = some (.iinc 3 (-1), 3) by decide +kernel) rfl).trans (by rw [show Int32.ofInt (-1) = -1 from by decide]; rfl)
set_option maxRecDepth 20000 in
theorem i145_104 : ex_ X d 145 104 [.ref a, v1, v2, v3, v4, v5] [] h Q = ex_ X d 145 105 [.ref a, v1, v2, v3, v4, v5] [.ref a] h Q := ex_nx (show mx_at 145 104 = some (.aload_n 0, 1) by decide +kernel) rfl
set_option maxRecDepth 20000 in
theorem i145_105 : ex_ X d 145 105 [v0, v1, v2, v3, v4, v5] [.ref a] h Q = (gk_ h a 14 [(12, 0)] = true ∧ ex_ X d 145 108 [v0, v1, v2, v3, v4, v5] [gv_ h a 14] h Q) := R_getf (show mx_at 145 105 = some (.getfield 28, 3) by decide +kernel) (mx_fdo ow145 fd120028)
set_option maxRecDepth 20000 in
theorem i145_108 : ex_ X d 145 108 [v0, v1, v2, .int x, v4, v5] [w0] h Q = ex_ X d 145 109 [v0, v1, v2, .int x, v4, v5] [.int x, w0] h Q := ex_nx (show mx_at 145 108 = some (.iload_n 3, 1) by decide +kernel) rfl
set_option maxRecDepth 20000 in
theorem i145_109 : ex_ X d 145 109 [v0, v1, v2, v3, v4, v5] [w0, w1] h Q = ex_ X d 145 110 [v0, v1, v2, v3, v4, v5] [.int 1, w0, w1] h Q := R_iconst (show mx_at 145 109 = some (.iconst 1, 1) by decide +kernel) (by decide)
set_option maxRecDepth 20000 in
theorem i145_110 : ex_ X d 145 110 [v0, v1, v2, v3, v4, v5] [.int y, .int x, w0] h Q = ex_ X d 145 111 [v0, v1, v2, v3, v4, v5] [.int (x - y), w0] h Q := ex_nx (show mx_at 145 110 = some (.isub, 1) by decide +kernel) rfl
set_option maxRecDepth 20000 in
theorem i145_111 : ex_ X d 145 111 [v0, v1, v2, v3, v4, .int x] [w0, w1] h Q = ex_ X d 145 113 [v0, v1, v2, v3, v4, .int x] [.int x, w0, w1] h Q := ex_nx (show mx_at 145 111 = some (.iload 5, 2) by decide +kernel) rfl
set_option maxRecDepth 20000 in
theorem i145_113 : ex_ X d 145 113 [v0, v1, v2, v3, v4, v5] [w0, w1, w2] h Q = ex_ X d 145 116 [v0, v1, v2, v3, v4, v5] [.int 20000, w0, w1, w2] h Q := R_sipush (show mx_at 145 113 = some (.sipush 20000, 3) by decide +kernel) (by decide)
set_option maxRecDepth 20000 in
theorem i145_116 : ex_ X d 145 116 [v0, v1, v2, v3, v4, v5] [.int y, .int x, w0, w1] h Q = ex_ X d 145 117 [v0, v1, v2, v3, v4, v5] [.int (x - y), w0, w1] h Q := ex_nx (show mx_at 145 116 = some (.isub, 1) by decide +kernel) rfl
set_option maxRecDepth 20000 in
theorem i145_117 : ex_ X d 145 117 [.ref a, v1, v2, v3, v4, v5] [w0, w1, w2] h Q = ex_ X d 145 118 [.ref a, v1, v2, v3, v4, v5] [.ref a, w0, w1, w2] h Q := ex_nx (show mx_at 145 117 = some (.aload_n 0, 1) by decide +kernel) rfl
set_option maxRecDepth 20000 in
theorem i145_118 : ex_ X d 145 118 [v0, v1, v2, v3, v4, v5] [.ref a, w0, w1, w2] h Q = (gk_ h a 14 [(12, 0)] = true ∧ ex_ X d 145 121 [v0, v1, v2, v3, v4, v5] [gv_ h a 14, w0, w1, w2] h Q) := R_getf (show mx_at 145 118 = some (.getfield 28, 3) by decide +kernel) (mx_fdo ow145 fd120028)
set_option maxRecDepth 20000 in
theorem i145_121 : ex_ X d 145 121 [v0, v1, v2, .int x, v4, v5] [w0, w1, w2, w3] h Q = ex_ X d 145 122 [v0, v1, v2, .int x, v4, v5] [.int x, w0, w1, w2, w3] h Q := ex_nx (show mx_at 145 121 = some (.iload_n 3, 1) by decide +kernel) rfl
set_option maxRecDepth 20000 in
theorem i145_122 : ex_ X d 145 122 [v0, v1, v2, v3, v4, v5] [w0, w1, w2, w3, w4] h Q = ex_ X d 145 123 [v0, v1, v2, v3, v4, v5] [.int 1, w0, w1, w2, w3, w4] h Q := R_iconst (show mx_at 145 122 = some (.iconst 1, 1) by decide +kernel) (by decide)
set_option maxRecDepth 20000 in
theorem i145_123 : ex_ X d 145 123 [v0, v1, v2, v3, v4, v5] [.int y, .int x, w0, w1, w2, w3] h Q = ex_ X d 145 124 [v0, v1, v2, v3, v4, v5] [.int (x - y), w0, w1, w2, w3] h Q := ex_nx (show mx_at 145 123 = some (.isub, 1) by decide +kernel) rfl
set_option maxRecDepth 20000 in
theorem i145_124 : ex_ X d 145 124 [v0, v1, v2, v3, v4, v5] [.int i, .ref a, w0, w1, w2] h Q = (ik_ h a i = true ∧ ex_ X d 145 125 [v0, v1, v2, v3, v4, v5] [.int (ia_ h a i), w0, w1, w2] h Q) := R_iald (show mx_at 145 124 = some (.iaload, 1) by decide +kernel)
set_option maxRecDepth 20000 in
theorem i145_125 : ex_ X d 145 125 [.ref a, v1, v2, v3, v4, v5] [w0, w1, w2, w3] h Q = ex_ X d 145 126 [.ref a, v1, v2, v3, v4, v5] [.ref a, w0, w1, w2, w3] h Q := ex_nx (show mx_at 145 125 = some (.aload_n 0, 1) by decide +kernel) rfl
set_option maxRecDepth 20000 in
theorem i145_126 : ex_ X d 145 126 [v0, v1, v2, v3, v4, v5] [.ref a, w0, w1, w2, w3] h Q = (gk_ h a 14 [(12, 0)] = true ∧ ex_ X d 145 129 [v0, v1, v2, v3, v4, v5] [gv_ h a 14, w0, w1, w2, w3] h Q) := R_getf (show mx_at 145 126 = some (.getfield 28, 3) by decide +kernel) (mx_fdo ow145 fd120028)
set_option maxRecDepth 20000 in
theorem i145_129 : ex_ X d 145 129 [v0, v1, v2, .int x, v4, v5] [w0, w1, w2, w3, w4] h Q = ex_ X d 145 130 [v0, v1, v2, .int x, v4, v5] [.int x, w0, w1, w2, w3, w4] h Q := ex_nx (show mx_at 145 129 = some (.iload_n 3, 1) by decide +kernel) rfl
set_option maxRecDepth 20000 in
theorem i145_130 : ex_ X d 145 130 [v0, v1, v2, v3, v4, v5] [.int i, .ref a, w0, w1, w2, w3] h Q = (ik_ h a i = true ∧ ex_ X d 145 131 [v0, v1, v2, v3, v4, v5] [.int (ia_ h a i), w0, w1, w2, w3] h Q) := R_iald (show mx_at 145 130 = some (.iaload, 1) by decide +kernel)
set_option maxRecDepth 20000 in
theorem i145_131 : ex_ X (d + 1) 145 131 [v0, v1, v2, v3, v4, v5] [.int x2, .int x1, .int x0, w0, w1] h Q = ev_ X d 144 [.int x0, .int x1, .int x2] h (fun r h' => ex_ X (d + 1) 145 134 [v0, v1, v2, v3, v4, v5] (r.toList ++ [w0, w1]) h' Q) := R_stat (show mx_at 145 131 = some (.invokestatic 125, 3) by decide +kernel) (mx_clk ow145 cc12_125) (Nat.le_of_ble_eq_true rfl) rfl rfl (Nat.le_of_ble_eq_true rfl) ml144 (Nat.le_of_ble_eq_true rfl)
set_option maxRecDepth 20000 in
theorem i145_134 : ex_ X d 145 134 [v0, v1, v2, v3, v4, v5] [.int x, .int i, .ref a] h Q = (ik_ h a i = true ∧ ex_ X d 145 135 [v0, v1, v2, v3, v4, v5] [] (is_ h a i x) Q) := R_iast (show mx_at 145 134 = some (.iastore, 1) by decide +kernel)
set_option maxRecDepth 20000 in
theorem i145_135 : ex_ X d 145 135 [v0, v1, v2, v3, .int x, v5] [] h Q = (mx_nl v3 = true ∧ ex_ X d 145 138 [v0, v1, v2, v3, .int (x + 1), v5] [] h Q) := R_iinc (n := 4) (c := 1) (show mx_at 145 135 = some (.iinc 4 1, 3) by decide +kernel) rfl
set_option maxRecDepth 20000 in
theorem i145_138 : ex_ X d 145 138 [v0, v1, v2, v3, v4, v5] [] h Q = ex_ X d 145 5 [v0, v1, v2, v3, v4, v5] [] h Q := R_to (show mx_at 145 138 = some (.goto (-133), 3) by decide +kernel) rfl rfl
set_option maxRecDepth 20000 in
theorem i145_141 : ex_ X d 145 141 [.ref a, v1, v2, v3, v4, v5] [] h Q = ex_ X d 145 142 [.ref a, v1, v2, v3, v4, v5] [.ref a] h Q := ex_nx (show mx_at 145 141 = some (.aload_n 0, 1) by decide +kernel) rfl
set_option maxRecDepth 20000 in
theorem i145_142 : ex_ X d 145 142 [v0, v1, v2, v3, v4, v5] [.ref a] h Q = (gk_ h a 14 [(12, 0)] = true ∧ ex_ X d 145 145 [v0, v1, v2, v3, v4, v5] [gv_ h a 14] h Q) := R_getf (show mx_at 145 142 = some (.getfield 28, 3) by decide +kernel) (mx_fdo ow145 fd120028)
set_option maxRecDepth 20000 in
theorem i145_145 : ex_ X d 145 145 [v0, v1, v2, v3, v4, v5] [w0] h Q = ex_ X d 145 146 [v0, v1, v2, v3, v4, v5] [.int 0, w0] h Q := R_iconst (show mx_at 145 145 = some (.iconst 0, 1) by decide +kernel) (by decide)
set_option maxRecDepth 20000 in
theorem i145_146 : ex_ X d 145 146 [v0, v1, v2, v3, v4, v5] [.int i, .ref a] h Q = (ik_ h a i = true ∧ ex_ X d 145 147 [v0, v1, v2, v3, v4, v5] [.int (ia_ h a i)] h Q) := R_iald (show mx_at 145 146 = some (.iaload, 1) by decide +kernel)
set_option maxRecDepth 20000 in
theorem i145_147 : ex_ X d 145 147 [v0, v1, v2, v3, v4, v5] [.int x] h Q = Q (some (.int x)) h := ex_ret (show mx_at 145 147 = some (.ireturn, 1) by decide +kernel) (mx_retI rt145)
theorem i145_e : ev_ X d 145 [.ref a, .int x0, .int x1] h Q = ex_ X d 145 0 [.ref a, .int x0, .int x1, .double 0, .double 0, .double 0] [] h Q := by rw [ev_, ml145]; rfl
-- 146 X12_feed
set_option maxRecDepth 20000 in
theorem i146_0 : ex_ X d 146 0 [v0, v1, v2, .int x, v4] [] h Q = ex_ X d 146 1 [v0, v1, v2, .int x, v4] [.int x] h Q := ex_nx (show mx_at 146 0 = some (.iload_n 3, 1) by decide +kernel) rfl
set_option maxRecDepth 20000 in
theorem i146_1 : ex_ X d 146 1 [v0, v1, v2, v3, v4] [.int x] h Q = ex_ X d 146 2 [v0, v1, v2, v3, v4] [.long x.toInt64] h Q := ex_nx (show mx_at 146 1 = some (.i2l, 1) by decide +kernel) rfl
set_option maxRecDepth 20000 in
theorem i146_2 : ex_ X d 146 2 [v0, v1, v2, v3, v4] [w0] h Q = ex_ X d 146 3 [v0, v1, v2, v3, v4] [.long 1, w0] h Q := ex_nx (show mx_at 146 2 = some (.lconst 1, 1) by decide +kernel) rfl
set_option maxRecDepth 20000 in
theorem i146_3 : ex_ X d 146 3 [v0, v1, v2, v3, v4] [w0, w1] h Q = ex_ X d 146 6 [v0, v1, v2, v3, v4] [.long 8, w0, w1] h Q := R_ldc2 (show mx_at 146 3 = some (.ldc2_w 129, 3) by decide +kernel) ow146 kl120129
set_option maxRecDepth 20000 in
theorem i146_6 : ex_ X (d + 1) 146 6 [v0, v1, v2, v3, v4] [.long j2, .long j1, .long j0] h Q = ev_ X d 124 [.long j0, .long j1, .long j2] h (fun r h' => ex_ X (d + 1) 146 9 [v0, v1, v2, v3, v4] (r.toList ++ []) h' Q) := R_stat (show mx_at 146 6 = some (.invokestatic 54, 3) by decide +kernel) (mx_clk ow146 cc12_54) (Nat.le_of_ble_eq_true rfl) rfl rfl (Nat.le_of_ble_eq_true rfl) ml124 (Nat.le_of_ble_eq_true rfl)
set_option maxRecDepth 20000 in
theorem i146_9 : ex_ X d 146 9 [v0, v1, v2, v3, v4] [.int x] h Q = if ¬ x = 0 then ex_ X d 146 18 [v0, v1, v2, v3, v4] [] h Q else ex_ X d 146 12 [v0, v1, v2, v3, v4] [] h Q := (R_br (show mx_at 146 9 = some (.ifCond .ne 9, 3) by decide +kernel) rfl rfl).trans mx_ite
set_option maxRecDepth 20000 in
theorem i146_12 : ex_ X d 146 12 [.ref a, v1, v2, v3, v4] [] h Q = ex_ X d 146 13 [.ref a, v1, v2, v3, v4] [.ref a] h Q := ex_nx (show mx_at 146 12 = some (.aload_n 0, 1) by decide +kernel) rfl
set_option maxRecDepth 20000 in
theorem i146_13 : ex_ X d 146 13 [v0, v1, v2, v3, v4] [w0] h Q = ex_ X d 146 14 [v0, v1, v2, v3, v4] [.int 1, w0] h Q := R_iconst (show mx_at 146 13 = some (.iconst 1, 1) by decide +kernel) (by decide)
set_option maxRecDepth 20000 in
theorem i146_14 (hc : co_ h a = some 12) : ex_ X (d + 1) 146 14 [v0, v1, v2, v3, v4] [.int x0, .ref a] h Q = ev_ X d 123 [.ref a, .int x0] h (fun r h' => ex_ X (d + 1) 146 17 [v0, v1, v2, v3, v4] (r.toList ++ []) h' Q) := R_vir (show mx_at 146 14 = some (.invokevirtual 131, 3) by decide +kernel) (mx_clk ow146 cc12_131) (Nat.le_of_ble_eq_true rfl) rfl rfl hc rfl (Nat.le_of_ble_eq_true rfl) (Nat.le_of_ble_eq_true rfl) (by rw [ml123]; exact Nat.le_of_ble_eq_true rfl)
set_option maxRecDepth 20000 in
theorem i146_17 : ex_ X d 146 17 [v0, v1, v2, v3, v4] [.int x] h Q = Q (some (.int x)) h := ex_ret (show mx_at 146 17 = some (.ireturn, 1) by decide +kernel) (mx_retI rt146)
set_option maxRecDepth 20000 in
theorem i146_18 : ex_ X d 146 18 [.ref a, v1, v2, v3, v4] [] h Q = ex_ X d 146 19 [.ref a, v1, v2, v3, v4] [.ref a] h Q := ex_nx (show mx_at 146 18 = some (.aload_n 0, 1) by decide +kernel) rfl
set_option maxRecDepth 20000 in
theorem i146_19 : ex_ X d 146 19 [v0, v1, v2, v3, v4] [.ref a] h Q = (gk_ h a 0 [(12, 0)] = true ∧ ex_ X d 146 22 [v0, v1, v2, v3, v4] [gv_ h a 0] h Q) := R_getf (show mx_at 146 19 = some (.getfield 7, 3) by decide +kernel) (mx_fdo ow146 fd120007)
set_option maxRecDepth 20000 in
theorem i146_22 : ex_ X d 146 22 [v0, v1, v2, v3, v4] [w0] h Q = ex_ X d 146 24 [v0, v1, v2, v3, v4] [.int 9, w0] h Q := R_bipush (show mx_at 146 22 = some (.bipush 9, 2) by decide +kernel) (by decide)
set_option maxRecDepth 20000 in
theorem i146_24 : ex_ X d 146 24 [v0, v1, v2, v3, v4] [.int i, .ref a] h Q = (ik_ h a i = true ∧ ex_ X d 146 25 [v0, v1, v2, v3, v4] [.int (ia_ h a i)] h Q) := R_iald (show mx_at 146 24 = some (.iaload, 1) by decide +kernel)
set_option maxRecDepth 20000 in
theorem i146_25 : ex_ X d 146 25 [v0, v1, v2, .int x, v4] [w0] h Q = ex_ X d 146 26 [v0, v1, v2, .int x, v4] [.int x, w0] h Q := ex_nx (show mx_at 146 25 = some (.iload_n 3, 1) by decide +kernel) rfl
set_option maxRecDepth 20000 in
theorem i146_26 : ex_ X d 146 26 [v0, v1, v2, v3, v4] [.int y, .int x] h Q = ex_ X d 146 27 [v0, v1, v2, v3, v4] [.int (x + y)] h Q := ex_nx (show mx_at 146 26 = some (.iadd, 1) by decide +kernel) rfl
set_option maxRecDepth 20000 in
theorem i146_27 : ex_ X d 146 27 [v0, v1, v2, v3, v4] [w0] h Q = ex_ X d 146 29 [v0, v1, v2, v3, v4] [.int 50, w0] h Q := R_bipush (show mx_at 146 27 = some (.bipush 50, 2) by decide +kernel) (by decide)
set_option maxRecDepth 20000 in
theorem i146_29 : ex_ X d 146 29 [v0, v1, v2, v3, v4] [.int y, .int x] h Q = if x ≤ y then ex_ X d 146 38 [v0, v1, v2, v3, v4] [] h Q else ex_ X d 146 32 [v0, v1, v2, v3, v4] [] h Q := (R_br (show mx_at 146 29 = some (.if_icmp .le 9, 3) by decide +kernel) rfl rfl).trans mx_ite
set_option maxRecDepth 20000 in
theorem i146_32 : ex_ X d 146 32 [.ref a, v1, v2, v3, v4] [] h Q = ex_ X d 146 33 [.ref a, v1, v2, v3, v4] [.ref a] h Q := ex_nx (show mx_at 146 32 = some (.aload_n 0, 1) by decide +kernel) rfl
set_option maxRecDepth 20000 in
theorem i146_33 : ex_ X d 146 33 [v0, v1, v2, v3, v4] [w0] h Q = ex_ X d 146 34 [v0, v1, v2, v3, v4] [.int 4, w0] h Q := R_iconst (show mx_at 146 33 = some (.iconst 4, 1) by decide +kernel) (by decide)
set_option maxRecDepth 20000 in
theorem i146_34 (hc : co_ h a = some 12) : ex_ X (d + 1) 146 34 [v0, v1, v2, v3, v4] [.int x0, .ref a] h Q = ev_ X d 123 [.ref a, .int x0] h (fun r h' => ex_ X (d + 1) 146 37 [v0, v1, v2, v3, v4] (r.toList ++ []) h' Q) := R_vir (show mx_at 146 34 = some (.invokevirtual 131, 3) by decide +kernel) (mx_clk ow146 cc12_131) (Nat.le_of_ble_eq_true rfl) rfl rfl hc rfl (Nat.le_of_ble_eq_true rfl) (Nat.le_of_ble_eq_true rfl) (by rw [ml123]; exact Nat.le_of_ble_eq_true rfl)
set_option maxRecDepth 20000 in
theorem i146_37 : ex_ X d 146 37 [v0, v1, v2, v3, v4] [.int x] h Q = Q (some (.int x)) h := ex_ret (show mx_at 146 37 = some (.ireturn, 1) by decide +kernel) (mx_retI rt146)
set_option maxRecDepth 20000 in
theorem i146_38 : ex_ X d 146 38 [v0, v1, v2, v3, v4] [] h Q = ex_ X d 146 39 [v0, v1, v2, v3, v4] [.int 0] h Q := R_iconst (show mx_at 146 38 = some (.iconst 0, 1) by decide +kernel) (by decide)
set_option maxRecDepth 20000 in
theorem i146_39 : ex_ X d 146 39 [v0, v1, v2, v3, v4] [.int x] h Q = (mx_nl v3 = true ∧ ex_ X d 146 41 [v0, v1, v2, v3, .int x] [] h Q) := mx_t1 (R_st (ok := mx_isI) (n := 4) (w := 2) (show mx_at 146 39 = some (.istore 4, 2) by decide +kernel) (fun _ _ => rfl) (Nat.le_of_ble_eq_true rfl)) rfl
set_option maxRecDepth 20000 in
theorem i146_41 : ex_ X d 146 41 [v0, v1, v2, v3, .int x] [] h Q = ex_ X d 146 43 [v0, v1, v2, v3, .int x] [.int x] h Q := ex_nx (show mx_at 146 41 = some (.iload 4, 2) by decide +kernel) rfl
set_option maxRecDepth 20000 in
theorem i146_43 : ex_ X d 146 43 [v0, v1, v2, .int x, v4] [w0] h Q = ex_ X d 146 44 [v0, v1, v2, .int x, v4] [.int x, w0] h Q := ex_nx (show mx_at 146 43 = some (.iload_n 3, 1) by decide +kernel) rfl
set_option maxRecDepth 20000 in
theorem i146_44 : ex_ X d 146 44 [v0, v1, v2, v3, v4] [.int y, .int x] h Q = if y ≤ x then ex_ X d 146 92 [v0, v1, v2, v3, v4] [] h Q else ex_ X d 146 47 [v0, v1, v2, v3, v4] [] h Q := (R_br (show mx_at 146 44 = some (.if_icmp .ge 48, 3) by decide +kernel) rfl rfl).trans mx_ite
set_option maxRecDepth 20000 in
theorem i146_47 : ex_ X d 146 47 [.ref a, v1, v2, v3, v4] [] h Q = ex_ X d 146 48 [.ref a, v1, v2, v3, v4] [.ref a] h Q := ex_nx (show mx_at 146 47 = some (.aload_n 0, 1) by decide +kernel) rfl
set_option maxRecDepth 20000 in
theorem i146_48 : ex_ X d 146 48 [v0, v1, v2, v3, v4] [.ref a] h Q = (gk_ h a 0 [(12, 0)] = true ∧ ex_ X d 146 51 [v0, v1, v2, v3, v4] [gv_ h a 0] h Q) := R_getf (show mx_at 146 48 = some (.getfield 7, 3) by decide +kernel) (mx_fdo ow146 fd120007)
set_option maxRecDepth 20000 in
theorem i146_51 : ex_ X d 146 51 [v0, v1, v2, v3, v4] [w0] h Q = ex_ X d 146 54 [v0, v1, v2, v3, v4] [.int 226, w0] h Q := R_sipush (show mx_at 146 51 = some (.sipush 226, 3) by decide +kernel) (by decide)
set_option maxRecDepth 20000 in
theorem i146_54 : ex_ X d 146 54 [.ref a, v1, v2, v3, v4] [w0, w1] h Q = ex_ X d 146 55 [.ref a, v1, v2, v3, v4] [.ref a, w0, w1] h Q := ex_nx (show mx_at 146 54 = some (.aload_n 0, 1) by decide +kernel) rfl
set_option maxRecDepth 20000 in
theorem i146_55 : ex_ X d 146 55 [v0, v1, v2, v3, v4] [.ref a, w0, w1] h Q = (gk_ h a 0 [(12, 0)] = true ∧ ex_ X d 146 58 [v0, v1, v2, v3, v4] [gv_ h a 0, w0, w1] h Q) := R_getf (show mx_at 146 55 = some (.getfield 7, 3) by decide +kernel) (mx_fdo ow146 fd120007)
set_option maxRecDepth 20000 in
theorem i146_58 : ex_ X d 146 58 [v0, v1, v2, v3, v4] [w0, w1, w2] h Q = ex_ X d 146 60 [v0, v1, v2, v3, v4] [.int 9, w0, w1, w2] h Q := R_bipush (show mx_at 146 58 = some (.bipush 9, 2) by decide +kernel) (by decide)
set_option maxRecDepth 20000 in
theorem i146_60 : ex_ X d 146 60 [v0, v1, v2, v3, v4] [.int i, .ref a, w0, w1] h Q = (ik_ h a i = true ∧ ex_ X d 146 61 [v0, v1, v2, v3, v4] [.int (ia_ h a i), w0, w1] h Q) := R_iald (show mx_at 146 60 = some (.iaload, 1) by decide +kernel)
set_option maxRecDepth 20000 in
theorem i146_61 : ex_ X d 146 61 [v0, v1, v2, v3, v4] [.int y, .int x, w0] h Q = ex_ X d 146 62 [v0, v1, v2, v3, v4] [.int (x + y), w0] h Q := ex_nx (show mx_at 146 61 = some (.iadd, 1) by decide +kernel) rfl
set_option maxRecDepth 20000 in
theorem i146_62 : ex_ X d 146 62 [v0, .long jx, v2, v3, v4] [w0, w1] h Q = ex_ X d 146 63 [v0, .long jx, v2, v3, v4] [.long jx, w0, w1] h Q := ex_nx (show mx_at 146 62 = some (.lload_n 1, 1) by decide +kernel) rfl
set_option maxRecDepth 20000 in
theorem i146_63 : ex_ X d 146 63 [v0, v1, v2, v3, v4] [w0, w1, w2] h Q = ex_ X d 146 65 [v0, v1, v2, v3, v4] [.int 8, w0, w1, w2] h Q := R_bipush (show mx_at 146 63 = some (.bipush 8, 2) by decide +kernel) (by decide)
set_option maxRecDepth 20000 in
theorem i146_65 : ex_ X d 146 65 [v0, v1, v2, v3, .int x] [w0, w1, w2, w3] h Q = ex_ X d 146 67 [v0, v1, v2, v3, .int x] [.int x, w0, w1, w2, w3] h Q := ex_nx (show mx_at 146 65 = some (.iload 4, 2) by decide +kernel) rfl
set_option maxRecDepth 20000 in
theorem i146_67 : ex_ X d 146 67 [v0, v1, v2, v3, v4] [.int y, .int x, w0, w1, w2] h Q = ex_ X d 146 68 [v0, v1, v2, v3, v4] [.int (x * y), w0, w1, w2] h Q := ex_nx (show mx_at 146 67 = some (.imul, 1) by decide +kernel) rfl
set_option maxRecDepth 20000 in
theorem i146_68 : ex_ X d 146 68 [v0, v1, v2, v3, v4] [.int y, .long jx, w0, w1] h Q = ex_ X d 146 69 [v0, v1, v2, v3, v4] [.long (jx >>> (y.toInt64 &&& 63)), w0, w1] h Q := ex_nx (show mx_at 146 68 = some (.lshr, 1) by decide +kernel) rfl
set_option maxRecDepth 20000 in
theorem i146_69 : ex_ X d 146 69 [v0, v1, v2, v3, v4] [w0, w1, w2] h Q = ex_ X d 146 72 [v0, v1, v2, v3, v4] [.long 255, w0, w1, w2] h Q := R_ldc2 (show mx_at 146 69 = some (.ldc2_w 134, 3) by decide +kernel) ow146 kl120134
set_option maxRecDepth 20000 in
theorem i146_72 : ex_ X d 146 72 [v0, v1, v2, v3, v4] [.long jy, .long jx, w0, w1] h Q = ex_ X d 146 73 [v0, v1, v2, v3, v4] [.long (jx &&& jy), w0, w1] h Q := ex_nx (show mx_at 146 72 = some (.land, 1) by decide +kernel) rfl
set_option maxRecDepth 20000 in
theorem i146_73 : ex_ X d 146 73 [v0, v1, v2, v3, v4] [.long jx, w0, w1] h Q = ex_ X d 146 74 [v0, v1, v2, v3, v4] [.int jx.toInt32, w0, w1] h Q := ex_nx (show mx_at 146 73 = some (.l2i, 1) by decide +kernel) rfl
set_option maxRecDepth 20000 in
theorem i146_74 : ex_ X d 146 74 [v0, v1, v2, v3, v4] [.int x, .int i, .ref a] h Q = (ik_ h a i = true ∧ ex_ X d 146 75 [v0, v1, v2, v3, v4] [] (is_ h a i x) Q) := R_iast (show mx_at 146 74 = some (.iastore, 1) by decide +kernel)
set_option maxRecDepth 20000 in
theorem i146_75 : ex_ X d 146 75 [.ref a, v1, v2, v3, v4] [] h Q = ex_ X d 146 76 [.ref a, v1, v2, v3, v4] [.ref a] h Q := ex_nx (show mx_at 146 75 = some (.aload_n 0, 1) by decide +kernel) rfl
set_option maxRecDepth 20000 in
theorem i146_76 : ex_ X d 146 76 [v0, v1, v2, v3, v4] [.ref a] h Q = (gk_ h a 0 [(12, 0)] = true ∧ ex_ X d 146 79 [v0, v1, v2, v3, v4] [gv_ h a 0] h Q) := R_getf (show mx_at 146 76 = some (.getfield 7, 3) by decide +kernel) (mx_fdo ow146 fd120007)
set_option maxRecDepth 20000 in
theorem i146_79 : ex_ X d 146 79 [v0, v1, v2, v3, v4] [w0] h Q = ex_ X d 146 81 [v0, v1, v2, v3, v4] [.int 9, w0] h Q := R_bipush (show mx_at 146 79 = some (.bipush 9, 2) by decide +kernel) (by decide)
set_option maxRecDepth 20000 in
theorem i146_81 : ex_ X d 146 81 [v0, v1, v2, v3, v4] [.int x, .ref a] h Q = ex_ X d 146 82 [v0, v1, v2, v3, v4] [.int x, .ref a, .int x, .ref a] h Q := ex_nx (show mx_at 146 81 = some (.dup2, 1) by decide +kernel) rfl
set_option maxRecDepth 20000 in
theorem i146_82 : ex_ X d 146 82 [v0, v1, v2, v3, v4] [.int i, .ref a, w0, w1] h Q = (ik_ h a i = true ∧ ex_ X d 146 83 [v0, v1, v2, v3, v4] [.int (ia_ h a i), w0, w1] h Q) := R_iald (show mx_at 146 82 = some (.iaload, 1) by decide +kernel)
set_option maxRecDepth 20000 in
theorem i146_83 : ex_ X d 146 83 [v0, v1, v2, v3, v4] [w0, w1, w2] h Q = ex_ X d 146 84 [v0, v1, v2, v3, v4] [.int 1, w0, w1, w2] h Q := R_iconst (show mx_at 146 83 = some (.iconst 1, 1) by decide +kernel) (by decide)
set_option maxRecDepth 20000 in
theorem i146_84 : ex_ X d 146 84 [v0, v1, v2, v3, v4] [.int y, .int x, w0, w1] h Q = ex_ X d 146 85 [v0, v1, v2, v3, v4] [.int (x + y), w0, w1] h Q := ex_nx (show mx_at 146 84 = some (.iadd, 1) by decide +kernel) rfl
set_option maxRecDepth 20000 in
theorem i146_85 : ex_ X d 146 85 [v0, v1, v2, v3, v4] [.int x, .int i, .ref a] h Q = (ik_ h a i = true ∧ ex_ X d 146 86 [v0, v1, v2, v3, v4] [] (is_ h a i x) Q) := R_iast (show mx_at 146 85 = some (.iastore, 1) by decide +kernel)
set_option maxRecDepth 20000 in
theorem i146_86 : ex_ X d 146 86 [v0, v1, v2, v3, .int x] [] h Q = (mx_nl v3 = true ∧ ex_ X d 146 89 [v0, v1, v2, v3, .int (x + 1)] [] h Q) := R_iinc (n := 4) (c := 1) (show mx_at 146 86 = some (.iinc 4 1, 3) by decide +kernel) rfl
set_option maxRecDepth 20000 in
theorem i146_89 : ex_ X d 146 89 [v0, v1, v2, v3, v4] [] h Q = ex_ X d 146 41 [v0, v1, v2, v3, v4] [] h Q := R_to (show mx_at 146 89 = some (.goto (-48), 3) by decide +kernel) rfl rfl
set_option maxRecDepth 20000 in
theorem i146_92 : ex_ X d 146 92 [.ref a, v1, v2, v3, v4] [] h Q = ex_ X d 146 93 [.ref a, v1, v2, v3, v4] [.ref a] h Q := ex_nx (show mx_at 146 92 = some (.aload_n 0, 1) by decide +kernel) rfl
set_option maxRecDepth 20000 in
theorem i146_93 : ex_ X d 146 93 [v0, v1, v2, v3, v4] [.ref a] h Q = (gk_ h a 0 [(12, 0)] = true ∧ ex_ X d 146 96 [v0, v1, v2, v3, v4] [gv_ h a 0] h Q) := R_getf (show mx_at 146 93 = some (.getfield 7, 3) by decide +kernel) (mx_fdo ow146 fd120007)
set_option maxRecDepth 20000 in
theorem i146_96 : ex_ X d 146 96 [v0, v1, v2, v3, v4] [w0] h Q = ex_ X d 146 98 [v0, v1, v2, v3, v4] [.int 9, w0] h Q := R_bipush (show mx_at 146 96 = some (.bipush 9, 2) by decide +kernel) (by decide)
set_option maxRecDepth 20000 in
theorem i146_98 : ex_ X d 146 98 [v0, v1, v2, v3, v4] [.int i, .ref a] h Q = (ik_ h a i = true ∧ ex_ X d 146 99 [v0, v1, v2, v3, v4] [.int (ia_ h a i)] h Q) := R_iald (show mx_at 146 98 = some (.iaload, 1) by decide +kernel)
set_option maxRecDepth 20000 in
theorem i146_99 : ex_ X d 146 99 [v0, v1, v2, v3, v4] [.int x] h Q = Q (some (.int x)) h := ex_ret (show mx_at 146 99 = some (.ireturn, 1) by decide +kernel) (mx_retI rt146)
theorem i146_e : ev_ X d 146 [.ref a, .long j0, .int x1] h Q = ex_ X d 146 0 [.ref a, .long j0, .double 0, .int x1, .double 0] [] h Q := by rw [ev_, ml146]; rfl
-- 147 X12_text
set_option maxRecDepth 20000 in
theorem i147_0 : ex_ X d 147 0 [v0, .int x, v2, v3] [] h Q = ex_ X d 147 1 [v0, .int x, v2, v3] [.int x] h Q := ex_nx (show mx_at 147 0 = some (.iload_n 1, 1) by decide +kernel) rfl
set_option maxRecDepth 20000 in
theorem i147_1 : ex_ X d 147 1 [v0, v1, v2, v3] [.int x] h Q = ex_ X d 147 2 [v0, v1, v2, v3] [.long x.toInt64] h Q := ex_nx (show mx_at 147 1 = some (.i2l, 1) by decide +kernel) rfl
set_option maxRecDepth 20000 in
theorem i147_2 : ex_ X d 147 2 [v0, v1, v2, v3] [w0] h Q = ex_ X d 147 3 [v0, v1, v2, v3] [.long 0, w0] h Q := ex_nx (show mx_at 147 2 = some (.lconst 0, 1) by decide +kernel) rfl
set_option maxRecDepth 20000 in
theorem i147_3 : ex_ X d 147 3 [v0, v1, v2, v3] [w0, w1] h Q = ex_ X d 147 4 [v0, v1, v2, v3] [.long 1, w0, w1] h Q := ex_nx (show mx_at 147 3 = some (.lconst 1, 1) by decide +kernel) rfl
set_option maxRecDepth 20000 in
theorem i147_4 : ex_ X (d + 1) 147 4 [v0, v1, v2, v3] [.long j2, .long j1, .long j0] h Q = ev_ X d 124 [.long j0, .long j1, .long j2] h (fun r h' => ex_ X (d + 1) 147 7 [v0, v1, v2, v3] (r.toList ++ []) h' Q) := R_stat (show mx_at 147 4 = some (.invokestatic 54, 3) by decide +kernel) (mx_clk ow147 cc12_54) (Nat.le_of_ble_eq_true rfl) rfl rfl (Nat.le_of_ble_eq_true rfl) ml124 (Nat.le_of_ble_eq_true rfl)
set_option maxRecDepth 20000 in
theorem i147_7 : ex_ X d 147 7 [v0, v1, v2, v3] [.int x] h Q = if ¬ x = 0 then ex_ X d 147 16 [v0, v1, v2, v3] [] h Q else ex_ X d 147 10 [v0, v1, v2, v3] [] h Q := (R_br (show mx_at 147 7 = some (.ifCond .ne 9, 3) by decide +kernel) rfl rfl).trans mx_ite
set_option maxRecDepth 20000 in
theorem i147_10 : ex_ X d 147 10 [.ref a, v1, v2, v3] [] h Q = ex_ X d 147 11 [.ref a, v1, v2, v3] [.ref a] h Q := ex_nx (show mx_at 147 10 = some (.aload_n 0, 1) by decide +kernel) rfl
set_option maxRecDepth 20000 in
theorem i147_11 : ex_ X d 147 11 [v0, v1, v2, v3] [w0] h Q = ex_ X d 147 12 [v0, v1, v2, v3] [.int 1, w0] h Q := R_iconst (show mx_at 147 11 = some (.iconst 1, 1) by decide +kernel) (by decide)
set_option maxRecDepth 20000 in
theorem i147_12 (hc : co_ h a = some 12) : ex_ X (d + 1) 147 12 [v0, v1, v2, v3] [.int x0, .ref a] h Q = ev_ X d 123 [.ref a, .int x0] h (fun r h' => ex_ X (d + 1) 147 15 [v0, v1, v2, v3] (r.toList ++ []) h' Q) := R_vir (show mx_at 147 12 = some (.invokevirtual 131, 3) by decide +kernel) (mx_clk ow147 cc12_131) (Nat.le_of_ble_eq_true rfl) rfl rfl hc rfl (Nat.le_of_ble_eq_true rfl) (Nat.le_of_ble_eq_true rfl) (by rw [ml123]; exact Nat.le_of_ble_eq_true rfl)
set_option maxRecDepth 20000 in
theorem i147_15 : ex_ X d 147 15 [v0, v1, v2, v3] [.int x] h Q = Q (some (.int x)) h := ex_ret (show mx_at 147 15 = some (.ireturn, 1) by decide +kernel) (mx_retI rt147)
set_option maxRecDepth 20000 in
theorem i147_16 : ex_ X d 147 16 [.ref a, v1, v2, v3] [] h Q = ex_ X d 147 17 [.ref a, v1, v2, v3] [.ref a] h Q := ex_nx (show mx_at 147 16 = some (.aload_n 0, 1) by decide +kernel) rfl
set_option maxRecDepth 20000 in
theorem i147_17 : ex_ X d 147 17 [v0, v1, v2, v3] [.ref a] h Q = (gk_ h a 0 [(12, 0)] = true ∧ ex_ X d 147 20 [v0, v1, v2, v3] [gv_ h a 0] h Q) := R_getf (show mx_at 147 17 = some (.getfield 7, 3) by decide +kernel) (mx_fdo ow147 fd120007)
set_option maxRecDepth 20000 in
theorem i147_20 : ex_ X d 147 20 [v0, v1, v2, v3] [w0] h Q = ex_ X d 147 22 [v0, v1, v2, v3] [.int 9, w0] h Q := R_bipush (show mx_at 147 20 = some (.bipush 9, 2) by decide +kernel) (by decide)
set_option maxRecDepth 20000 in
theorem i147_22 : ex_ X d 147 22 [v0, v1, v2, v3] [.int i, .ref a] h Q = (ik_ h a i = true ∧ ex_ X d 147 23 [v0, v1, v2, v3] [.int (ia_ h a i)] h Q) := R_iald (show mx_at 147 22 = some (.iaload, 1) by decide +kernel)
set_option maxRecDepth 20000 in
theorem i147_23 : ex_ X d 147 23 [v0, v1, v2, v3] [.int x] h Q = (mx_nl v1 = true ∧ ex_ X d 147 24 [v0, v1, .int x, v3] [] h Q) := mx_t1 (R_st (ok := mx_isI) (n := 2) (w := 1) (show mx_at 147 23 = some (.istore_n 2, 1) by decide +kernel) (fun _ _ => rfl) (Nat.le_of_ble_eq_true rfl)) rfl
set_option maxRecDepth 20000 in
theorem i147_24 : ex_ X d 147 24 [.ref a, v1, v2, v3] [] h Q = ex_ X d 147 25 [.ref a, v1, v2, v3] [.ref a] h Q := ex_nx (show mx_at 147 24 = some (.aload_n 0, 1) by decide +kernel) rfl
set_option maxRecDepth 20000 in
theorem i147_25 : ex_ X d 147 25 [v0, v1, v2, v3] [.ref a] h Q = (gk_ h a 0 [(12, 0)] = true ∧ ex_ X d 147 28 [v0, v1, v2, v3] [gv_ h a 0] h Q) := R_getf (show mx_at 147 25 = some (.getfield 7, 3) by decide +kernel) (mx_fdo ow147 fd120007)
set_option maxRecDepth 20000 in
theorem i147_28 : ex_ X d 147 28 [v0, v1, v2, v3] [w0] h Q = ex_ X d 147 30 [v0, v1, v2, v3] [.int 9, w0] h Q := R_bipush (show mx_at 147 28 = some (.bipush 9, 2) by decide +kernel) (by decide)
set_option maxRecDepth 20000 in
theorem i147_30 : ex_ X d 147 30 [v0, v1, v2, v3] [w0, w1] h Q = ex_ X d 147 31 [v0, v1, v2, v3] [.int 0, w0, w1] h Q := R_iconst (show mx_at 147 30 = some (.iconst 0, 1) by decide +kernel) (by decide)
set_option maxRecDepth 20000 in
theorem i147_31 : ex_ X d 147 31 [v0, v1, v2, v3] [.int x, .int i, .ref a] h Q = (ik_ h a i = true ∧ ex_ X d 147 32 [v0, v1, v2, v3] [] (is_ h a i x) Q) := R_iast (show mx_at 147 31 = some (.iastore, 1) by decide +kernel)
set_option maxRecDepth 20000 in
theorem i147_32 : ex_ X d 147 32 [.ref a, v1, v2, v3] [] h Q = ex_ X d 147 33 [.ref a, v1, v2, v3] [.ref a] h Q := ex_nx (show mx_at 147 32 = some (.aload_n 0, 1) by decide +kernel) rfl
set_option maxRecDepth 20000 in
theorem i147_33 : ex_ X d 147 33 [v0, v1, v2, v3] [w0] h Q = ex_ X d 147 36 [v0, v1, v2, v3] [.int 226, w0] h Q := R_sipush (show mx_at 147 33 = some (.sipush 226, 3) by decide +kernel) (by decide)
set_option maxRecDepth 20000 in
theorem i147_36 : ex_ X d 147 36 [v0, v1, .int x, v3] [w0, w1] h Q = ex_ X d 147 37 [v0, v1, .int x, v3] [.int x, w0, w1] h Q := ex_nx (show mx_at 147 36 = some (.iload_n 2, 1) by decide +kernel) rfl
set_option maxRecDepth 20000 in
theorem i147_37 : ex_ X d 147 37 [v0, .int x, v2, v3] [w0, w1, w2] h Q = ex_ X d 147 38 [v0, .int x, v2, v3] [.int x, w0, w1, w2] h Q := ex_nx (show mx_at 147 37 = some (.iload_n 1, 1) by decide +kernel) rfl
set_option maxRecDepth 20000 in
theorem i147_38 (hc : co_ h a = some 12) : ex_ X (d + 1) 147 38 [v0, v1, v2, v3] [.int x2, .int x1, .int x0, .ref a] h Q = ev_ X d 143 [.ref a, .int x0, .int x1, .int x2] h (fun r h' => ex_ X (d + 1) 147 41 [v0, v1, v2, v3] (r.toList ++ []) h' Q) := R_vir (show mx_at 147 38 = some (.invokevirtual 136, 3) by decide +kernel) (mx_clk ow147 cc12_136) (Nat.le_of_ble_eq_true rfl) rfl rfl hc rfl (Nat.le_of_ble_eq_true rfl) (Nat.le_of_ble_eq_true rfl) (by rw [ml143]; exact Nat.le_of_ble_eq_true rfl)
set_option maxRecDepth 20000 in
theorem i147_41 : ex_ X d 147 41 [.ref a, v1, v2, v3] [] h Q = ex_ X d 147 42 [.ref a, v1, v2, v3] [.ref a] h Q := ex_nx (show mx_at 147 41 = some (.aload_n 0, 1) by decide +kernel) rfl
set_option maxRecDepth 20000 in
theorem i147_42 : ex_ X d 147 42 [v0, v1, v2, v3] [.ref a] h Q = (gk_ h a 8 [(12, 0)] = true ∧ ex_ X d 147 45 [v0, v1, v2, v3] [gv_ h a 8] h Q) := R_getf (show mx_at 147 42 = some (.getfield 65, 3) by decide +kernel) (mx_fdo ow147 fd120065)
set_option maxRecDepth 20000 in
theorem i147_45 : ex_ X d 147 45 [v0, v1, v2, v3] [.int x] h Q = if x < 0 then ex_ X d 147 56 [v0, v1, v2, v3] [] h Q else ex_ X d 147 48 [v0, v1, v2, v3] [] h Q := (R_br (show mx_at 147 45 = some (.ifCond .lt 11, 3) by decide +kernel) rfl rfl).trans mx_ite
set_option maxRecDepth 20000 in
theorem i147_48 : ex_ X d 147 48 [v0, v1, v2, v3] [] h Q = ex_ X d 147 50 [v0, v1, v2, v3] [.int (-10)] h Q := R_bipush (show mx_at 147 48 = some (.bipush (-10), 2) by decide +kernel) (by decide)
set_option maxRecDepth 20000 in
theorem i147_50 : ex_ X d 147 50 [.ref a, v1, v2, v3] [w0] h Q = ex_ X d 147 51 [.ref a, v1, v2, v3] [.ref a, w0] h Q := ex_nx (show mx_at 147 50 = some (.aload_n 0, 1) by decide +kernel) rfl
set_option maxRecDepth 20000 in
theorem i147_51 : ex_ X d 147 51 [v0, v1, v2, v3] [.ref a, w0] h Q = (gk_ h a 8 [(12, 0)] = true ∧ ex_ X d 147 54 [v0, v1, v2, v3] [gv_ h a 8, w0] h Q) := R_getf (show mx_at 147 51 = some (.getfield 65, 3) by decide +kernel) (mx_fdo ow147 fd120065)
set_option maxRecDepth 20000 in
theorem i147_54 : ex_ X d 147 54 [v0, v1, v2, v3] [.int y, .int x] h Q = ex_ X d 147 55 [v0, v1, v2, v3] [.int (x - y)] h Q := ex_nx (show mx_at 147 54 = some (.isub, 1) by decide +kernel) rfl
set_option maxRecDepth 20000 in
theorem i147_55 : ex_ X d 147 55 [v0, v1, v2, v3] [.int x] h Q = Q (some (.int x)) h := ex_ret (show mx_at 147 55 = some (.ireturn, 1) by decide +kernel) (mx_retI rt147)
set_option maxRecDepth 20000 in
theorem i147_56 : ex_ X d 147 56 [.ref a, v1, v2, v3] [] h Q = ex_ X d 147 57 [.ref a, v1, v2, v3] [.ref a] h Q := ex_nx (show mx_at 147 56 = some (.aload_n 0, 1) by decide +kernel) rfl
set_option maxRecDepth 20000 in
theorem i147_57 : ex_ X d 147 57 [v0, v1, v2, v3] [.ref a] h Q = (gk_ h a 0 [(12, 0)] = true ∧ ex_ X d 147 60 [v0, v1, v2, v3] [gv_ h a 0] h Q) := R_getf (show mx_at 147 57 = some (.getfield 7, 3) by decide +kernel) (mx_fdo ow147 fd120007)
set_option maxRecDepth 20000 in
theorem i147_60 : ex_ X d 147 60 [v0, v1, v2, v3] [w0] h Q = ex_ X d 147 62 [v0, v1, v2, v3] [.int 104, w0] h Q := R_bipush (show mx_at 147 60 = some (.bipush 104, 2) by decide +kernel) (by decide)
set_option maxRecDepth 20000 in
theorem i147_62 : ex_ X d 147 62 [v0, .int x, v2, v3] [w0, w1] h Q = ex_ X d 147 63 [v0, .int x, v2, v3] [.int x, w0, w1] h Q := ex_nx (show mx_at 147 62 = some (.iload_n 1, 1) by decide +kernel) rfl
set_option maxRecDepth 20000 in
theorem i147_63 : ex_ X d 147 63 [v0, v1, v2, v3] [.int y, .int x, w0] h Q = ex_ X d 147 64 [v0, v1, v2, v3] [.int (x + y), w0] h Q := ex_nx (show mx_at 147 63 = some (.iadd, 1) by decide +kernel) rfl
set_option maxRecDepth 20000 in
theorem i147_64 : ex_ X d 147 64 [.ref a, v1, v2, v3] [w0, w1] h Q = ex_ X d 147 65 [.ref a, v1, v2, v3] [.ref a, w0, w1] h Q := ex_nx (show mx_at 147 64 = some (.aload_n 0, 1) by decide +kernel) rfl
set_option maxRecDepth 20000 in
theorem i147_65 : ex_ X d 147 65 [v0, v1, v2, v3] [.ref a, w0, w1] h Q = (gk_ h a 13 [(12, 0)] = true ∧ ex_ X d 147 68 [v0, v1, v2, v3] [gv_ h a 13, w0, w1] h Q) := R_getf (show mx_at 147 65 = some (.getfield 79, 3) by decide +kernel) (mx_fdo ow147 fd120079)
set_option maxRecDepth 20000 in
theorem i147_68 : ex_ X d 147 68 [v0, v1, v2, v3] [.int x, .int i, .ref a] h Q = (ik_ h a i = true ∧ ex_ X d 147 69 [v0, v1, v2, v3] [] (is_ h a i x) Q) := R_iast (show mx_at 147 68 = some (.iastore, 1) by decide +kernel)
set_option maxRecDepth 20000 in
theorem i147_69 : ex_ X d 147 69 [v0, v1, v2, v3] [] h Q = ex_ X d 147 70 [v0, v1, v2, v3] [.int 0] h Q := R_iconst (show mx_at 147 69 = some (.iconst 0, 1) by decide +kernel) (by decide)
set_option maxRecDepth 20000 in
theorem i147_70 : ex_ X d 147 70 [v0, v1, v2, v3] [.int x] h Q = (mx_nl v2 = true ∧ ex_ X d 147 71 [v0, v1, v2, .int x] [] h Q) := mx_t1 (R_st (ok := mx_isI) (n := 3) (w := 1) (show mx_at 147 70 = some (.istore_n 3, 1) by decide +kernel) (fun _ _ => rfl) (Nat.le_of_ble_eq_true rfl)) rfl
set_option maxRecDepth 20000 in
theorem i147_71 : ex_ X d 147 71 [v0, v1, v2, .int x] [] h Q = ex_ X d 147 72 [v0, v1, v2, .int x] [.int x] h Q := ex_nx (show mx_at 147 71 = some (.iload_n 3, 1) by decide +kernel) rfl
set_option maxRecDepth 20000 in
theorem i147_72 : ex_ X d 147 72 [.ref a, v1, v2, v3] [w0] h Q = ex_ X d 147 73 [.ref a, v1, v2, v3] [.ref a, w0] h Q := ex_nx (show mx_at 147 72 = some (.aload_n 0, 1) by decide +kernel) rfl
set_option maxRecDepth 20000 in
theorem i147_73 : ex_ X d 147 73 [v0, v1, v2, v3] [.ref a, w0] h Q = (gk_ h a 13 [(12, 0)] = true ∧ ex_ X d 147 76 [v0, v1, v2, v3] [gv_ h a 13, w0] h Q) := R_getf (show mx_at 147 73 = some (.getfield 79, 3) by decide +kernel) (mx_fdo ow147 fd120079)
set_option maxRecDepth 20000 in
theorem i147_76 : ex_ X d 147 76 [v0, v1, v2, v3] [.int y, .int x] h Q = if y ≤ x then ex_ X d 147 105 [v0, v1, v2, v3] [] h Q else ex_ X d 147 79 [v0, v1, v2, v3] [] h Q := (R_br (show mx_at 147 76 = some (.if_icmp .ge 29, 3) by decide +kernel) rfl rfl).trans mx_ite
set_option maxRecDepth 20000 in
theorem i147_79 : ex_ X d 147 79 [.ref a, v1, v2, v3] [] h Q = ex_ X d 147 80 [.ref a, v1, v2, v3] [.ref a] h Q := ex_nx (show mx_at 147 79 = some (.aload_n 0, 1) by decide +kernel) rfl
set_option maxRecDepth 20000 in
theorem i147_80 : ex_ X d 147 80 [v0, v1, v2, v3] [.ref a] h Q = (gk_ h a 0 [(12, 0)] = true ∧ ex_ X d 147 83 [v0, v1, v2, v3] [gv_ h a 0] h Q) := R_getf (show mx_at 147 80 = some (.getfield 7, 3) by decide +kernel) (mx_fdo ow147 fd120007)
set_option maxRecDepth 20000 in
theorem i147_83 : ex_ X d 147 83 [v0, v1, v2, v3] [w0] h Q = ex_ X d 147 85 [v0, v1, v2, v3] [.int 126, w0] h Q := R_bipush (show mx_at 147 83 = some (.bipush 126, 2) by decide +kernel) (by decide)
set_option maxRecDepth 20000 in
theorem i147_85 : ex_ X d 147 85 [v0, v1, v2, v3] [w0, w1] h Q = ex_ X d 147 87 [v0, v1, v2, v3] [.int 50, w0, w1] h Q := R_bipush (show mx_at 147 85 = some (.bipush 50, 2) by decide +kernel) (by decide)
set_option maxRecDepth 20000 in
theorem i147_87 : ex_ X d 147 87 [v0, .int x, v2, v3] [w0, w1, w2] h Q = ex_ X d 147 88 [v0, .int x, v2, v3] [.int x, w0, w1, w2] h Q := ex_nx (show mx_at 147 87 = some (.iload_n 1, 1) by decide +kernel) rfl
set_option maxRecDepth 20000 in
theorem i147_88 : ex_ X d 147 88 [v0, v1, v2, v3] [.int y, .int x, w0, w1] h Q = ex_ X d 147 89 [v0, v1, v2, v3] [.int (x * y), w0, w1] h Q := ex_nx (show mx_at 147 88 = some (.imul, 1) by decide +kernel) rfl
set_option maxRecDepth 20000 in
theorem i147_89 : ex_ X d 147 89 [v0, v1, v2, v3] [.int y, .int x, w0] h Q = ex_ X d 147 90 [v0, v1, v2, v3] [.int (x + y), w0] h Q := ex_nx (show mx_at 147 89 = some (.iadd, 1) by decide +kernel) rfl
set_option maxRecDepth 20000 in
theorem i147_90 : ex_ X d 147 90 [v0, v1, v2, .int x] [w0, w1] h Q = ex_ X d 147 91 [v0, v1, v2, .int x] [.int x, w0, w1] h Q := ex_nx (show mx_at 147 90 = some (.iload_n 3, 1) by decide +kernel) rfl
set_option maxRecDepth 20000 in
theorem i147_91 : ex_ X d 147 91 [v0, v1, v2, v3] [.int y, .int x, w0] h Q = ex_ X d 147 92 [v0, v1, v2, v3] [.int (x + y), w0] h Q := ex_nx (show mx_at 147 91 = some (.iadd, 1) by decide +kernel) rfl
set_option maxRecDepth 20000 in
theorem i147_92 : ex_ X d 147 92 [.ref a, v1, v2, v3] [w0, w1] h Q = ex_ X d 147 93 [.ref a, v1, v2, v3] [.ref a, w0, w1] h Q := ex_nx (show mx_at 147 92 = some (.aload_n 0, 1) by decide +kernel) rfl
set_option maxRecDepth 20000 in
theorem i147_93 : ex_ X d 147 93 [v0, v1, v2, v3] [.ref a, w0, w1] h Q = (gk_ h a 12 [(12, 0)] = true ∧ ex_ X d 147 96 [v0, v1, v2, v3] [gv_ h a 12, w0, w1] h Q) := R_getf (show mx_at 147 93 = some (.getfield 25, 3) by decide +kernel) (mx_fdo ow147 fd120025)
set_option maxRecDepth 20000 in
theorem i147_96 : ex_ X d 147 96 [v0, v1, v2, .int x] [w0, w1, w2] h Q = ex_ X d 147 97 [v0, v1, v2, .int x] [.int x, w0, w1, w2] h Q := ex_nx (show mx_at 147 96 = some (.iload_n 3, 1) by decide +kernel) rfl
set_option maxRecDepth 20000 in
theorem i147_97 : ex_ X d 147 97 [v0, v1, v2, v3] [.int i, .ref a, w0, w1] h Q = (ik_ h a i = true ∧ ex_ X d 147 98 [v0, v1, v2, v3] [.int (ia_ h a i), w0, w1] h Q) := R_iald (show mx_at 147 97 = some (.iaload, 1) by decide +kernel)
set_option maxRecDepth 20000 in
theorem i147_98 : ex_ X d 147 98 [v0, v1, v2, v3] [.int x, .int i, .ref a] h Q = (ik_ h a i = true ∧ ex_ X d 147 99 [v0, v1, v2, v3] [] (is_ h a i x) Q) := R_iast (show mx_at 147 98 = some (.iastore, 1) by decide +kernel)
set_option maxRecDepth 20000 in
theorem i147_99 : ex_ X d 147 99 [v0, v1, v2, .int x] [] h Q = (mx_nl v2 = true ∧ ex_ X d 147 102 [v0, v1, v2, .int (x + 1)] [] h Q) := R_iinc (n := 3) (c := 1) (show mx_at 147 99 = some (.iinc 3 1, 3) by decide +kernel) rfl
set_option maxRecDepth 20000 in
theorem i147_102 : ex_ X d 147 102 [v0, v1, v2, v3] [] h Q = ex_ X d 147 71 [v0, v1, v2, v3] [] h Q := R_to (show mx_at 147 102 = some (.goto (-31), 3) by decide +kernel) rfl rfl
set_option maxRecDepth 20000 in
theorem i147_105 : ex_ X d 147 105 [v0, v1, v2, v3] [] h Q = ex_ X d 147 106 [v0, v1, v2, v3] [.int 1] h Q := R_iconst (show mx_at 147 105 = some (.iconst 1, 1) by decide +kernel) (by decide)
set_option maxRecDepth 20000 in
theorem i147_106 : ex_ X d 147 106 [v0, v1, v2, v3] [.int x] h Q = Q (some (.int x)) h := ex_ret (show mx_at 147 106 = some (.ireturn, 1) by decide +kernel) (mx_retI rt147)
theorem i147_e : ev_ X d 147 [.ref a, .int x0] h Q = ex_ X d 147 0 [.ref a, .int x0, .double 0, .double 0] [] h Q := by rw [ev_, ml147]; rfl
-- 148 X12_givesOf
set_option maxRecDepth 20000 in
theorem i148_0 : ex_ X d 148 0 [.ref a, v1, v2, v3, v4, v5, v6] [] h Q = ex_ X d 148 1 [.ref a, v1, v2, v3, v4, v5, v6] [.ref a] h Q := ex_nx (show mx_at 148 0 = some (.aload_n 0, 1) by decide +kernel) rfl
set_option maxRecDepth 20000 in
theorem i148_1 : ex_ X d 148 1 [v0, v1, v2, v3, v4, v5, v6] [.ref a] h Q = (gk_ h a 0 [(12, 0)] = true ∧ ex_ X d 148 4 [v0, v1, v2, v3, v4, v5, v6] [gv_ h a 0] h Q) := R_getf (show mx_at 148 1 = some (.getfield 7, 3) by decide +kernel) (mx_fdo ow148 fd120007)
set_option maxRecDepth 20000 in
theorem i148_4 : ex_ X d 148 4 [v0, v1, v2, v3, v4, v5, v6] [w0] h Q = ex_ X d 148 6 [v0, v1, v2, v3, v4, v5, v6] [.int 104, w0] h Q := R_bipush (show mx_at 148 4 = some (.bipush 104, 2) by decide +kernel) (by decide)
set_option maxRecDepth 20000 in
theorem i148_6 : ex_ X d 148 6 [v0, .int x, v2, v3, v4, v5, v6] [w0, w1] h Q = ex_ X d 148 7 [v0, .int x, v2, v3, v4, v5, v6] [.int x, w0, w1] h Q := ex_nx (show mx_at 148 6 = some (.iload_n 1, 1) by decide +kernel) rfl
set_option maxRecDepth 20000 in
theorem i148_7 : ex_ X d 148 7 [v0, v1, v2, v3, v4, v5, v6] [.int y, .int x, w0] h Q = ex_ X d 148 8 [v0, v1, v2, v3, v4, v5, v6] [.int (x + y), w0] h Q := ex_nx (show mx_at 148 7 = some (.iadd, 1) by decide +kernel) rfl
set_option maxRecDepth 20000 in
theorem i148_8 : ex_ X d 148 8 [v0, v1, v2, v3, v4, v5, v6] [.int i, .ref a] h Q = (ik_ h a i = true ∧ ex_ X d 148 9 [v0, v1, v2, v3, v4, v5, v6] [.int (ia_ h a i)] h Q) := R_iald (show mx_at 148 8 = some (.iaload, 1) by decide +kernel)
set_option maxRecDepth 20000 in
theorem i148_9 : ex_ X d 148 9 [v0, v1, v2, v3, v4, v5, v6] [.int x] h Q = if ¬ x = 0 then ex_ X d 148 38 [v0, v1, v2, v3, v4, v5, v6] [] h Q else ex_ X d 148 12 [v0, v1, v2, v3, v4, v5, v6] [] h Q := (R_br (show mx_at 148 9 = some (.ifCond .ne 29, 3) by decide +kernel) rfl rfl).trans mx_ite
set_option maxRecDepth 20000 in
theorem i148_12 : ex_ X d 148 12 [v0, .int x, v2, v3, v4, v5, v6] [] h Q = ex_ X d 148 13 [v0, .int x, v2, v3, v4, v5, v6] [.int x] h Q := ex_nx (show mx_at 148 12 = some (.iload_n 1, 1) by decide +kernel) rfl
set_option maxRecDepth 20000 in
theorem i148_13 : ex_ X d 148 13 [v0, v1, v2, v3, v4, v5, v6] [.int x] h Q = if ¬ x = 0 then ex_ X d 148 23 [v0, v1, v2, v3, v4, v5, v6] [] h Q else ex_ X d 148 16 [v0, v1, v2, v3, v4, v5, v6] [] h Q := (R_br (show mx_at 148 13 = some (.ifCond .ne 10, 3) by decide +kernel) rfl rfl).trans mx_ite
set_option maxRecDepth 20000 in
theorem i148_16 : ex_ X d 148 16 [v0, v1, v2, .int x, v4, v5, v6] [] h Q = ex_ X d 148 17 [v0, v1, v2, .int x, v4, v5, v6] [.int x] h Q := ex_nx (show mx_at 148 16 = some (.iload_n 3, 1) by decide +kernel) rfl
set_option maxRecDepth 20000 in
theorem i148_17 : ex_ X d 148 17 [v0, v1, v2, v3, v4, .int x, v6] [w0] h Q = ex_ X d 148 19 [v0, v1, v2, v3, v4, .int x, v6] [.int x, w0] h Q := ex_nx (show mx_at 148 17 = some (.iload 5, 2) by decide +kernel) rfl
set_option maxRecDepth 20000 in
theorem i148_19 : ex_ X d 148 19 [v0, v1, v2, v3, v4, v5, v6] [.int y, .int x] h Q = ex_ X d 148 20 [v0, v1, v2, v3, v4, v5, v6] [.int (x + y)] h Q := ex_nx (show mx_at 148 19 = some (.iadd, 1) by decide +kernel) rfl
set_option maxRecDepth 20000 in
theorem i148_20 : ex_ X d 148 20 [v0, v1, v2, v3, v4, v5, v6] [w0] h Q = ex_ X d 148 24 [v0, v1, v2, v3, v4, v5, v6] [w0] h Q := R_to (show mx_at 148 20 = some (.goto 4, 3) by decide +kernel) rfl rfl
set_option maxRecDepth 20000 in
theorem i148_23 : ex_ X d 148 23 [v0, v1, v2, .int x, v4, v5, v6] [] h Q = ex_ X d 148 24 [v0, v1, v2, .int x, v4, v5, v6] [.int x] h Q := ex_nx (show mx_at 148 23 = some (.iload_n 3, 1) by decide +kernel) rfl
set_option maxRecDepth 20000 in
theorem i148_24 : ex_ X d 148 24 [v0, v1, v2, v3, v4, v5, v6] [.int x] h Q = (mx_nl v5 = true ∧ ex_ X d 148 26 [v0, v1, v2, v3, v4, v5, .int x] [] h Q) := mx_t1 (R_st (ok := mx_isI) (n := 6) (w := 2) (show mx_at 148 24 = some (.istore 6, 2) by decide +kernel) (fun _ _ => rfl) (Nat.le_of_ble_eq_true rfl)) rfl
set_option maxRecDepth 20000 in
theorem i148_26 : ex_ X d 148 26 [v0, v1, .int x, v3, v4, v5, v6] [] h Q = ex_ X d 148 27 [v0, v1, .int x, v3, v4, v5, v6] [.int x] h Q := ex_nx (show mx_at 148 26 = some (.iload_n 2, 1) by decide +kernel) rfl
set_option maxRecDepth 20000 in
theorem i148_27 : ex_ X d 148 27 [v0, v1, v2, v3, v4, v5, .int x] [w0] h Q = ex_ X d 148 29 [v0, v1, v2, v3, v4, v5, .int x] [.int x, w0] h Q := ex_nx (show mx_at 148 27 = some (.iload 6, 2) by decide +kernel) rfl
set_option maxRecDepth 20000 in
theorem i148_29 : ex_ X d 148 29 [v0, v1, v2, v3, v4, v5, v6] [.int y, .int x] h Q = if x ≤ y then ex_ X d 148 36 [v0, v1, v2, v3, v4, v5, v6] [] h Q else ex_ X d 148 32 [v0, v1, v2, v3, v4, v5, v6] [] h Q := (R_br (show mx_at 148 29 = some (.if_icmp .le 7, 3) by decide +kernel) rfl rfl).trans mx_ite
set_option maxRecDepth 20000 in
theorem i148_32 : ex_ X d 148 32 [v0, v1, v2, v3, v4, v5, v6] [] h Q = ex_ X d 148 33 [v0, v1, v2, v3, v4, v5, v6] [.int 0] h Q := R_iconst (show mx_at 148 32 = some (.iconst 0, 1) by decide +kernel) (by decide)
set_option maxRecDepth 20000 in
theorem i148_33 : ex_ X d 148 33 [v0, v1, v2, v3, v4, v5, v6] [w0] h Q = ex_ X d 148 37 [v0, v1, v2, v3, v4, v5, v6] [w0] h Q := R_to (show mx_at 148 33 = some (.goto 4, 3) by decide +kernel) rfl rfl
set_option maxRecDepth 20000 in
theorem i148_36 : ex_ X d 148 36 [v0, v1, v2, v3, v4, v5, v6] [] h Q = ex_ X d 148 37 [v0, v1, v2, v3, v4, v5, v6] [.int 1] h Q := R_iconst (show mx_at 148 36 = some (.iconst 1, 1) by decide +kernel) (by decide)
set_option maxRecDepth 20000 in
theorem i148_37 : ex_ X d 148 37 [v0, v1, v2, v3, v4, v5, v6] [.int x] h Q = Q (some (.int x)) h := ex_ret (show mx_at 148 37 = some (.ireturn, 1) by decide +kernel) (mx_retI rt148)
set_option maxRecDepth 20000 in
theorem i148_38 : ex_ X d 148 38 [.ref a, v1, v2, v3, v4, v5, v6] [] h Q = ex_ X d 148 39 [.ref a, v1, v2, v3, v4, v5, v6] [.ref a] h Q := ex_nx (show mx_at 148 38 = some (.aload_n 0, 1) by decide +kernel) rfl
set_option maxRecDepth 20000 in
theorem i148_39 : ex_ X d 148 39 [v0, v1, v2, v3, v4, v5, v6] [.ref a] h Q = (gk_ h a 11 [(12, 0)] = true ∧ ex_ X d 148 42 [v0, v1, v2, v3, v4, v5, v6] [gv_ h a 11] h Q) := R_getf (show mx_at 148 39 = some (.getfield 22, 3) by decide +kernel) (mx_fdo ow148 fd120022)
set_option maxRecDepth 20000 in
theorem i148_42 : ex_ X d 148 42 [v0, v1, v2, v3, v4, v5, v6] [w0] h Q = ex_ X d 148 43 [v0, v1, v2, v3, v4, v5, v6] [.int 0, w0] h Q := R_iconst (show mx_at 148 42 = some (.iconst 0, 1) by decide +kernel) (by decide)
set_option maxRecDepth 20000 in
theorem i148_43 : ex_ X d 148 43 [v0, v1, .int x, v3, v4, v5, v6] [w0, w1] h Q = ex_ X d 148 44 [v0, v1, .int x, v3, v4, v5, v6] [.int x, w0, w1] h Q := ex_nx (show mx_at 148 43 = some (.iload_n 2, 1) by decide +kernel) rfl
set_option maxRecDepth 20000 in
theorem i148_44 : ex_ X d 148 44 [v0, v1, v2, v3, v4, v5, v6] [.int x, .int i, .ref a] h Q = (ik_ h a i = true ∧ ex_ X d 148 45 [v0, v1, v2, v3, v4, v5, v6] [] (is_ h a i x) Q) := R_iast (show mx_at 148 44 = some (.iastore, 1) by decide +kernel)
set_option maxRecDepth 20000 in
theorem i148_45 : ex_ X d 148 45 [.ref a, v1, v2, v3, v4, v5, v6] [] h Q = ex_ X d 148 46 [.ref a, v1, v2, v3, v4, v5, v6] [.ref a] h Q := ex_nx (show mx_at 148 45 = some (.aload_n 0, 1) by decide +kernel) rfl
set_option maxRecDepth 20000 in
theorem i148_46 : ex_ X d 148 46 [v0, v1, v2, v3, v4, v5, v6] [.ref a] h Q = (gk_ h a 11 [(12, 0)] = true ∧ ex_ X d 148 49 [v0, v1, v2, v3, v4, v5, v6] [gv_ h a 11] h Q) := R_getf (show mx_at 148 46 = some (.getfield 22, 3) by decide +kernel) (mx_fdo ow148 fd120022)
set_option maxRecDepth 20000 in
theorem i148_49 : ex_ X d 148 49 [v0, v1, v2, v3, v4, v5, v6] [w0] h Q = ex_ X d 148 50 [v0, v1, v2, v3, v4, v5, v6] [.int 1, w0] h Q := R_iconst (show mx_at 148 49 = some (.iconst 1, 1) by decide +kernel) (by decide)
set_option maxRecDepth 20000 in
theorem i148_50 : ex_ X d 148 50 [v0, v1, v2, .int x, v4, v5, v6] [w0, w1] h Q = ex_ X d 148 51 [v0, v1, v2, .int x, v4, v5, v6] [.int x, w0, w1] h Q := ex_nx (show mx_at 148 50 = some (.iload_n 3, 1) by decide +kernel) rfl
set_option maxRecDepth 20000 in
theorem i148_51 : ex_ X d 148 51 [v0, v1, v2, v3, v4, v5, v6] [.int x, .int i, .ref a] h Q = (ik_ h a i = true ∧ ex_ X d 148 52 [v0, v1, v2, v3, v4, v5, v6] [] (is_ h a i x) Q) := R_iast (show mx_at 148 51 = some (.iastore, 1) by decide +kernel)
set_option maxRecDepth 20000 in
theorem i148_52 : ex_ X d 148 52 [.ref a, v1, v2, v3, v4, v5, v6] [] h Q = ex_ X d 148 53 [.ref a, v1, v2, v3, v4, v5, v6] [.ref a] h Q := ex_nx (show mx_at 148 52 = some (.aload_n 0, 1) by decide +kernel) rfl
set_option maxRecDepth 20000 in
theorem i148_53 : ex_ X d 148 53 [v0, v1, v2, v3, v4, v5, v6] [.ref a] h Q = (gk_ h a 11 [(12, 0)] = true ∧ ex_ X d 148 56 [v0, v1, v2, v3, v4, v5, v6] [gv_ h a 11] h Q) := R_getf (show mx_at 148 53 = some (.getfield 22, 3) by decide +kernel) (mx_fdo ow148 fd120022)
set_option maxRecDepth 20000 in
theorem i148_56 : ex_ X d 148 56 [v0, v1, v2, v3, v4, v5, v6] [w0] h Q = ex_ X d 148 57 [v0, v1, v2, v3, v4, v5, v6] [.int 2, w0] h Q := R_iconst (show mx_at 148 56 = some (.iconst 2, 1) by decide +kernel) (by decide)
set_option maxRecDepth 20000 in
theorem i148_57 : ex_ X d 148 57 [v0, v1, v2, v3, .int x, v5, v6] [w0, w1] h Q = ex_ X d 148 59 [v0, v1, v2, v3, .int x, v5, v6] [.int x, w0, w1] h Q := ex_nx (show mx_at 148 57 = some (.iload 4, 2) by decide +kernel) rfl
set_option maxRecDepth 20000 in
theorem i148_59 : ex_ X d 148 59 [v0, v1, v2, v3, v4, v5, v6] [.int x, .int i, .ref a] h Q = (ik_ h a i = true ∧ ex_ X d 148 60 [v0, v1, v2, v3, v4, v5, v6] [] (is_ h a i x) Q) := R_iast (show mx_at 148 59 = some (.iastore, 1) by decide +kernel)
set_option maxRecDepth 20000 in
theorem i148_60 : ex_ X d 148 60 [.ref a, v1, v2, v3, v4, v5, v6] [] h Q = ex_ X d 148 61 [.ref a, v1, v2, v3, v4, v5, v6] [.ref a] h Q := ex_nx (show mx_at 148 60 = some (.aload_n 0, 1) by decide +kernel) rfl
set_option maxRecDepth 20000 in
theorem i148_61 : ex_ X d 148 61 [v0, v1, v2, v3, v4, v5, v6] [.ref a] h Q = (gk_ h a 11 [(12, 0)] = true ∧ ex_ X d 148 64 [v0, v1, v2, v3, v4, v5, v6] [gv_ h a 11] h Q) := R_getf (show mx_at 148 61 = some (.getfield 22, 3) by decide +kernel) (mx_fdo ow148 fd120022)
set_option maxRecDepth 20000 in
theorem i148_64 : ex_ X d 148 64 [v0, v1, v2, v3, v4, v5, v6] [w0] h Q = ex_ X d 148 65 [v0, v1, v2, v3, v4, v5, v6] [.int 3, w0] h Q := R_iconst (show mx_at 148 64 = some (.iconst 3, 1) by decide +kernel) (by decide)
set_option maxRecDepth 20000 in
theorem i148_65 : ex_ X d 148 65 [v0, v1, v2, v3, v4, .int x, v6] [w0, w1] h Q = ex_ X d 148 67 [v0, v1, v2, v3, v4, .int x, v6] [.int x, w0, w1] h Q := ex_nx (show mx_at 148 65 = some (.iload 5, 2) by decide +kernel) rfl
set_option maxRecDepth 20000 in
theorem i148_67 : ex_ X d 148 67 [v0, v1, v2, v3, v4, v5, v6] [.int x, .int i, .ref a] h Q = (ik_ h a i = true ∧ ex_ X d 148 68 [v0, v1, v2, v3, v4, v5, v6] [] (is_ h a i x) Q) := R_iast (show mx_at 148 67 = some (.iastore, 1) by decide +kernel)
set_option maxRecDepth 20000 in
theorem i148_68 : ex_ X d 148 68 [.ref a, v1, v2, v3, v4, v5, v6] [] h Q = ex_ X d 148 69 [.ref a, v1, v2, v3, v4, v5, v6] [.ref a] h Q := ex_nx (show mx_at 148 68 = some (.aload_n 0, 1) by decide +kernel) rfl
set_option maxRecDepth 20000 in
theorem i148_69 : ex_ X d 148 69 [v0, v1, v2, v3, v4, v5, v6] [w0] h Q = ex_ X d 148 71 [v0, v1, v2, v3, v4, v5, v6] [.int 126, w0] h Q := R_bipush (show mx_at 148 69 = some (.bipush 126, 2) by decide +kernel) (by decide)
set_option maxRecDepth 20000 in
theorem i148_71 : ex_ X d 148 71 [v0, v1, v2, v3, v4, v5, v6] [w0, w1] h Q = ex_ X d 148 73 [v0, v1, v2, v3, v4, v5, v6] [.int 50, w0, w1] h Q := R_bipush (show mx_at 148 71 = some (.bipush 50, 2) by decide +kernel) (by decide)
set_option maxRecDepth 20000 in
theorem i148_73 : ex_ X d 148 73 [v0, .int x, v2, v3, v4, v5, v6] [w0, w1, w2] h Q = ex_ X d 148 74 [v0, .int x, v2, v3, v4, v5, v6] [.int x, w0, w1, w2] h Q := ex_nx (show mx_at 148 73 = some (.iload_n 1, 1) by decide +kernel) rfl
set_option maxRecDepth 20000 in
theorem i148_74 : ex_ X d 148 74 [v0, v1, v2, v3, v4, v5, v6] [.int y, .int x, w0, w1] h Q = ex_ X d 148 75 [v0, v1, v2, v3, v4, v5, v6] [.int (x * y), w0, w1] h Q := ex_nx (show mx_at 148 74 = some (.imul, 1) by decide +kernel) rfl
set_option maxRecDepth 20000 in
theorem i148_75 : ex_ X d 148 75 [v0, v1, v2, v3, v4, v5, v6] [.int y, .int x, w0] h Q = ex_ X d 148 76 [v0, v1, v2, v3, v4, v5, v6] [.int (x + y), w0] h Q := ex_nx (show mx_at 148 75 = some (.iadd, 1) by decide +kernel) rfl
set_option maxRecDepth 20000 in
theorem i148_76 : ex_ X d 148 76 [.ref a, v1, v2, v3, v4, v5, v6] [w0, w1] h Q = ex_ X d 148 77 [.ref a, v1, v2, v3, v4, v5, v6] [.ref a, w0, w1] h Q := ex_nx (show mx_at 148 76 = some (.aload_n 0, 1) by decide +kernel) rfl
set_option maxRecDepth 20000 in
theorem i148_77 : ex_ X d 148 77 [v0, v1, v2, v3, v4, v5, v6] [.ref a, w0, w1] h Q = (gk_ h a 0 [(12, 0)] = true ∧ ex_ X d 148 80 [v0, v1, v2, v3, v4, v5, v6] [gv_ h a 0, w0, w1] h Q) := R_getf (show mx_at 148 77 = some (.getfield 7, 3) by decide +kernel) (mx_fdo ow148 fd120007)
set_option maxRecDepth 20000 in
theorem i148_80 : ex_ X d 148 80 [v0, v1, v2, v3, v4, v5, v6] [w0, w1, w2] h Q = ex_ X d 148 82 [v0, v1, v2, v3, v4, v5, v6] [.int 104, w0, w1, w2] h Q := R_bipush (show mx_at 148 80 = some (.bipush 104, 2) by decide +kernel) (by decide)
set_option maxRecDepth 20000 in
theorem i148_82 : ex_ X d 148 82 [v0, .int x, v2, v3, v4, v5, v6] [w0, w1, w2, w3] h Q = ex_ X d 148 83 [v0, .int x, v2, v3, v4, v5, v6] [.int x, w0, w1, w2, w3] h Q := ex_nx (show mx_at 148 82 = some (.iload_n 1, 1) by decide +kernel) rfl
set_option maxRecDepth 20000 in
theorem i148_83 : ex_ X d 148 83 [v0, v1, v2, v3, v4, v5, v6] [.int y, .int x, w0, w1, w2] h Q = ex_ X d 148 84 [v0, v1, v2, v3, v4, v5, v6] [.int (x + y), w0, w1, w2] h Q := ex_nx (show mx_at 148 83 = some (.iadd, 1) by decide +kernel) rfl
set_option maxRecDepth 20000 in
theorem i148_84 : ex_ X d 148 84 [v0, v1, v2, v3, v4, v5, v6] [.int i, .ref a, w0, w1] h Q = (ik_ h a i = true ∧ ex_ X d 148 85 [v0, v1, v2, v3, v4, v5, v6] [.int (ia_ h a i), w0, w1] h Q) := R_iald (show mx_at 148 84 = some (.iaload, 1) by decide +kernel)
set_option maxRecDepth 20000 in
theorem i148_85 (hc : co_ h a = some 12) : ex_ X (d + 1) 148 85 [v0, v1, v2, v3, v4, v5, v6] [.int x1, .int x0, .ref a] h Q = ev_ X d 145 [.ref a, .int x0, .int x1] h (fun r h' => ex_ X (d + 1) 148 88 [v0, v1, v2, v3, v4, v5, v6] (r.toList ++ []) h' Q) := R_vir (show mx_at 148 85 = some (.invokevirtual 140, 3) by decide +kernel) (mx_clk ow148 cc12_140) (Nat.le_of_ble_eq_true rfl) rfl rfl hc rfl (Nat.le_of_ble_eq_true rfl) (Nat.le_of_ble_eq_true rfl) (by rw [ml145]; exact Nat.le_of_ble_eq_true rfl)
set_option maxRecDepth 20000 in
theorem i148_88 : ex_ X d 148 88 [v0, v1, v2, v3, v4, v5, v6] [.int x] h Q = Q (some (.int x)) h := ex_ret (show mx_at 148 88 = some (.ireturn, 1) by decide +kernel) (mx_retI rt148)
theorem i148_e : ev_ X d 148 [.ref a, .int x0, .int x1, .int x2, .int x3, .int x4] h Q = ex_ X d 148 0 [.ref a, .int x0, .int x1, .int x2, .int x3, .int x4, .double 0] [] h Q := by rw [ev_, ml148]; rfl
-- 149 X12_law
set_option maxRecDepth 20000 in
theorem i149_0 : ex_ X d 149 0 [v0, .int x, v2, v3, v4, v5] [] h Q = ex_ X d 149 1 [v0, .int x, v2, v3, v4, v5] [.int x] h Q := ex_nx (show mx_at 149 0 = some (.iload_n 1, 1) by decide +kernel) rfl
set_option maxRecDepth 20000 in
theorem i149_1 : ex_ X d 149 1 [v0, v1, v2, v3, v4, v5] [.int x] h Q = ex_ X d 149 2 [v0, v1, v2, v3, v4, v5] [.long x.toInt64] h Q := ex_nx (show mx_at 149 1 = some (.i2l, 1) by decide +kernel) rfl
set_option maxRecDepth 20000 in
theorem i149_2 : ex_ X d 149 2 [v0, v1, v2, v3, v4, v5] [w0] h Q = ex_ X d 149 3 [v0, v1, v2, v3, v4, v5] [.long 0, w0] h Q := ex_nx (show mx_at 149 2 = some (.lconst 0, 1) by decide +kernel) rfl
set_option maxRecDepth 20000 in
theorem i149_3 : ex_ X d 149 3 [v0, v1, v2, v3, v4, v5] [w0, w1] h Q = ex_ X d 149 4 [v0, v1, v2, v3, v4, v5] [.long 1, w0, w1] h Q := ex_nx (show mx_at 149 3 = some (.lconst 1, 1) by decide +kernel) rfl
set_option maxRecDepth 20000 in
theorem i149_4 : ex_ X (d + 1) 149 4 [v0, v1, v2, v3, v4, v5] [.long j2, .long j1, .long j0] h Q = ev_ X d 124 [.long j0, .long j1, .long j2] h (fun r h' => ex_ X (d + 1) 149 7 [v0, v1, v2, v3, v4, v5] (r.toList ++ []) h' Q) := R_stat (show mx_at 149 4 = some (.invokestatic 54, 3) by decide +kernel) (mx_clk ow149 cc12_54) (Nat.le_of_ble_eq_true rfl) rfl rfl (Nat.le_of_ble_eq_true rfl) ml124 (Nat.le_of_ble_eq_true rfl)
set_option maxRecDepth 20000 in
theorem i149_7 : ex_ X d 149 7 [v0, v1, v2, v3, v4, v5] [.int x] h Q = if x = 0 then ex_ X d 149 24 [v0, v1, v2, v3, v4, v5] [] h Q else ex_ X d 149 10 [v0, v1, v2, v3, v4, v5] [] h Q := (R_br (show mx_at 149 7 = some (.ifCond .eq 17, 3) by decide +kernel) rfl rfl).trans mx_ite
set_option maxRecDepth 20000 in
theorem i149_10 : ex_ X d 149 10 [.ref a, v1, v2, v3, v4, v5] [] h Q = ex_ X d 149 11 [.ref a, v1, v2, v3, v4, v5] [.ref a] h Q := ex_nx (show mx_at 149 10 = some (.aload_n 0, 1) by decide +kernel) rfl
set_option maxRecDepth 20000 in
theorem i149_11 : ex_ X d 149 11 [v0, .int x, v2, v3, v4, v5] [w0] h Q = ex_ X d 149 12 [v0, .int x, v2, v3, v4, v5] [.int x, w0] h Q := ex_nx (show mx_at 149 11 = some (.iload_n 1, 1) by decide +kernel) rfl
set_option maxRecDepth 20000 in
theorem i149_12 : ex_ X d 149 12 [v0, v1, .int x, v3, v4, v5] [w0, w1] h Q = ex_ X d 149 13 [v0, v1, .int x, v3, v4, v5] [.int x, w0, w1] h Q := ex_nx (show mx_at 149 12 = some (.iload_n 2, 1) by decide +kernel) rfl
set_option maxRecDepth 20000 in
theorem i149_13 : ex_ X d 149 13 [v0, v1, v2, .int x, v4, v5] [w0, w1, w2] h Q = ex_ X d 149 14 [v0, v1, v2, .int x, v4, v5] [.int x, w0, w1, w2] h Q := ex_nx (show mx_at 149 13 = some (.iload_n 3, 1) by decide +kernel) rfl
set_option maxRecDepth 20000 in
theorem i149_14 : ex_ X d 149 14 [v0, v1, v2, v3, .int x, v5] [w0, w1, w2, w3] h Q = ex_ X d 149 16 [v0, v1, v2, v3, .int x, v5] [.int x, w0, w1, w2, w3] h Q := ex_nx (show mx_at 149 14 = some (.iload 4, 2) by decide +kernel) rfl
set_option maxRecDepth 20000 in
theorem i149_16 : ex_ X d 149 16 [v0, v1, v2, v3, v4, .int x] [w0, w1, w2, w3, w4] h Q = ex_ X d 149 18 [v0, v1, v2, v3, v4, .int x] [.int x, w0, w1, w2, w3, w4] h Q := ex_nx (show mx_at 149 16 = some (.iload 5, 2) by decide +kernel) rfl
set_option maxRecDepth 20000 in
theorem i149_18 (hc : co_ h a = some 12) : ex_ X (d + 1) 149 18 [v0, v1, v2, v3, v4, v5] [.int x4, .int x3, .int x2, .int x1, .int x0, .ref a] h Q = ev_ X d 148 [.ref a, .int x0, .int x1, .int x2, .int x3, .int x4] h (fun r h' => ex_ X (d + 1) 149 21 [v0, v1, v2, v3, v4, v5] (r.toList ++ []) h' Q) := R_vir (show mx_at 149 18 = some (.invokevirtual 144, 3) by decide +kernel) (mx_clk ow149 cc12_144) (Nat.le_of_ble_eq_true rfl) rfl rfl hc rfl (Nat.le_of_ble_eq_true rfl) (Nat.le_of_ble_eq_true rfl) (by rw [ml148]; exact Nat.le_of_ble_eq_true rfl)
set_option maxRecDepth 20000 in
theorem i149_21 : ex_ X d 149 21 [v0, v1, v2, v3, v4, v5] [w0] h Q = ex_ X d 149 29 [v0, v1, v2, v3, v4, v5] [w0] h Q := R_to (show mx_at 149 21 = some (.goto 8, 3) by decide +kernel) rfl rfl
set_option maxRecDepth 20000 in
theorem i149_24 : ex_ X d 149 24 [.ref a, v1, v2, v3, v4, v5] [] h Q = ex_ X d 149 25 [.ref a, v1, v2, v3, v4, v5] [.ref a] h Q := ex_nx (show mx_at 149 24 = some (.aload_n 0, 1) by decide +kernel) rfl
set_option maxRecDepth 20000 in
theorem i149_25 : ex_ X d 149 25 [v0, v1, v2, v3, v4, v5] [w0] h Q = ex_ X d 149 26 [v0, v1, v2, v3, v4, v5] [.int 1, w0] h Q := R_iconst (show mx_at 149 25 = some (.iconst 1, 1) by decide +kernel) (by decide)
set_option maxRecDepth 20000 in
theorem i149_26 (hc : co_ h a = some 12) : ex_ X (d + 1) 149 26 [v0, v1, v2, v3, v4, v5] [.int x0, .ref a] h Q = ev_ X d 123 [.ref a, .int x0] h (fun r h' => ex_ X (d + 1) 149 29 [v0, v1, v2, v3, v4, v5] (r.toList ++ []) h' Q) := R_vir (show mx_at 149 26 = some (.invokevirtual 131, 3) by decide +kernel) (mx_clk ow149 cc12_131) (Nat.le_of_ble_eq_true rfl) rfl rfl hc rfl (Nat.le_of_ble_eq_true rfl) (Nat.le_of_ble_eq_true rfl) (by rw [ml123]; exact Nat.le_of_ble_eq_true rfl)
set_option maxRecDepth 20000 in
theorem i149_29 : ex_ X d 149 29 [v0, v1, v2, v3, v4, v5] [.int x] h Q = Q (some (.int x)) h := ex_ret (show mx_at 149 29 = some (.ireturn, 1) by decide +kernel) (mx_retI rt149)
theorem i149_e : ev_ X d 149 [.ref a, .int x0, .int x1, .int x2, .int x3, .int x4] h Q = ex_ X d 149 0 [.ref a, .int x0, .int x1, .int x2, .int x3, .int x4] [] h Q := by rw [ev_, ml149]; rfl
-- 150 X12_seller
set_option maxRecDepth 20000 in
theorem i150_0 : ex_ X d 150 0 [v0, .int x, v2, v3, v4] [] h Q = ex_ X d 150 1 [v0, .int x, v2, v3, v4] [.int x] h Q := ex_nx (show mx_at 150 0 = some (.iload_n 1, 1) by decide +kernel) rfl
set_option maxRecDepth 20000 in
theorem i150_1 : ex_ X d 150 1 [v0, v1, v2, v3, v4] [.int x] h Q = ex_ X d 150 2 [v0, v1, v2, v3, v4] [.long x.toInt64] h Q := ex_nx (show mx_at 150 1 = some (.i2l, 1) by decide +kernel) rfl
set_option maxRecDepth 20000 in
theorem i150_2 : ex_ X d 150 2 [v0, v1, v2, v3, v4] [w0] h Q = ex_ X d 150 3 [v0, v1, v2, v3, v4] [.long 0, w0] h Q := ex_nx (show mx_at 150 2 = some (.lconst 0, 1) by decide +kernel) rfl
set_option maxRecDepth 20000 in
theorem i150_3 : ex_ X d 150 3 [v0, v1, v2, v3, v4] [w0, w1] h Q = ex_ X d 150 6 [v0, v1, v2, v3, v4] [.long 6, w0, w1] h Q := R_ldc2 (show mx_at 150 3 = some (.ldc2_w 148, 3) by decide +kernel) ow150 kl120148
set_option maxRecDepth 20000 in
theorem i150_6 : ex_ X (d + 1) 150 6 [v0, v1, v2, v3, v4] [.long j2, .long j1, .long j0] h Q = ev_ X d 124 [.long j0, .long j1, .long j2] h (fun r h' => ex_ X (d + 1) 150 9 [v0, v1, v2, v3, v4] (r.toList ++ []) h' Q) := R_stat (show mx_at 150 6 = some (.invokestatic 54, 3) by decide +kernel) (mx_clk ow150 cc12_54) (Nat.le_of_ble_eq_true rfl) rfl rfl (Nat.le_of_ble_eq_true rfl) ml124 (Nat.le_of_ble_eq_true rfl)
set_option maxRecDepth 20000 in
theorem i150_9 : ex_ X d 150 9 [v0, v1, v2, v3, v4] [.int x] h Q = if x = 0 then ex_ X d 150 36 [v0, v1, v2, v3, v4] [] h Q else ex_ X d 150 12 [v0, v1, v2, v3, v4] [] h Q := (R_br (show mx_at 150 9 = some (.ifCond .eq 27, 3) by decide +kernel) rfl rfl).trans mx_ite
set_option maxRecDepth 20000 in
theorem i150_12 : ex_ X d 150 12 [v0, v1, .int x, v3, v4] [] h Q = ex_ X d 150 13 [v0, v1, .int x, v3, v4] [.int x] h Q := ex_nx (show mx_at 150 12 = some (.iload_n 2, 1) by decide +kernel) rfl
set_option maxRecDepth 20000 in
theorem i150_13 : ex_ X d 150 13 [v0, v1, v2, v3, v4] [.int x] h Q = ex_ X d 150 14 [v0, v1, v2, v3, v4] [.long x.toInt64] h Q := ex_nx (show mx_at 150 13 = some (.i2l, 1) by decide +kernel) rfl
set_option maxRecDepth 20000 in
theorem i150_14 : ex_ X d 150 14 [v0, v1, v2, v3, v4] [w0] h Q = ex_ X d 150 15 [v0, v1, v2, v3, v4] [.long 0, w0] h Q := ex_nx (show mx_at 150 14 = some (.lconst 0, 1) by decide +kernel) rfl
set_option maxRecDepth 20000 in
theorem i150_15 : ex_ X d 150 15 [v0, v1, v2, v3, v4] [w0, w1] h Q = ex_ X d 150 18 [v0, v1, v2, v3, v4] [.long 99, w0, w1] h Q := R_ldc2 (show mx_at 150 15 = some (.ldc2_w 150, 3) by decide +kernel) ow150 kl120150
set_option maxRecDepth 20000 in
theorem i150_18 : ex_ X (d + 1) 150 18 [v0, v1, v2, v3, v4] [.long j2, .long j1, .long j0] h Q = ev_ X d 124 [.long j0, .long j1, .long j2] h (fun r h' => ex_ X (d + 1) 150 21 [v0, v1, v2, v3, v4] (r.toList ++ []) h' Q) := R_stat (show mx_at 150 18 = some (.invokestatic 54, 3) by decide +kernel) (mx_clk ow150 cc12_54) (Nat.le_of_ble_eq_true rfl) rfl rfl (Nat.le_of_ble_eq_true rfl) ml124 (Nat.le_of_ble_eq_true rfl)
set_option maxRecDepth 20000 in
theorem i150_21 : ex_ X d 150 21 [v0, v1, v2, v3, v4] [.int x] h Q = if x = 0 then ex_ X d 150 36 [v0, v1, v2, v3, v4] [] h Q else ex_ X d 150 24 [v0, v1, v2, v3, v4] [] h Q := (R_br (show mx_at 150 21 = some (.ifCond .eq 15, 3) by decide +kernel) rfl rfl).trans mx_ite
set_option maxRecDepth 20000 in
theorem i150_24 : ex_ X d 150 24 [v0, v1, v2, .int x, v4] [] h Q = ex_ X d 150 25 [v0, v1, v2, .int x, v4] [.int x] h Q := ex_nx (show mx_at 150 24 = some (.iload_n 3, 1) by decide +kernel) rfl
set_option maxRecDepth 20000 in
theorem i150_25 : ex_ X d 150 25 [v0, v1, v2, v3, v4] [.int x] h Q = ex_ X d 150 26 [v0, v1, v2, v3, v4] [.long x.toInt64] h Q := ex_nx (show mx_at 150 25 = some (.i2l, 1) by decide +kernel) rfl
set_option maxRecDepth 20000 in
theorem i150_26 : ex_ X d 150 26 [v0, v1, v2, v3, v4] [w0] h Q = ex_ X d 150 27 [v0, v1, v2, v3, v4] [.long 0, w0] h Q := ex_nx (show mx_at 150 26 = some (.lconst 0, 1) by decide +kernel) rfl
set_option maxRecDepth 20000 in
theorem i150_27 : ex_ X d 150 27 [v0, v1, v2, v3, v4] [w0, w1] h Q = ex_ X d 150 30 [v0, v1, v2, v3, v4] [.long 9999, w0, w1] h Q := R_ldc2 (show mx_at 150 27 = some (.ldc2_w 152, 3) by decide +kernel) ow150 kl120152
set_option maxRecDepth 20000 in
theorem i150_30 : ex_ X (d + 1) 150 30 [v0, v1, v2, v3, v4] [.long j2, .long j1, .long j0] h Q = ev_ X d 124 [.long j0, .long j1, .long j2] h (fun r h' => ex_ X (d + 1) 150 33 [v0, v1, v2, v3, v4] (r.toList ++ []) h' Q) := R_stat (show mx_at 150 30 = some (.invokestatic 54, 3) by decide +kernel) (mx_clk ow150 cc12_54) (Nat.le_of_ble_eq_true rfl) rfl rfl (Nat.le_of_ble_eq_true rfl) ml124 (Nat.le_of_ble_eq_true rfl)
set_option maxRecDepth 20000 in
theorem i150_33 : ex_ X d 150 33 [v0, v1, v2, v3, v4] [.int x] h Q = if ¬ x = 0 then ex_ X d 150 42 [v0, v1, v2, v3, v4] [] h Q else ex_ X d 150 36 [v0, v1, v2, v3, v4] [] h Q := (R_br (show mx_at 150 33 = some (.ifCond .ne 9, 3) by decide +kernel) rfl rfl).trans mx_ite
set_option maxRecDepth 20000 in
theorem i150_36 : ex_ X d 150 36 [.ref a, v1, v2, v3, v4] [] h Q = ex_ X d 150 37 [.ref a, v1, v2, v3, v4] [.ref a] h Q := ex_nx (show mx_at 150 36 = some (.aload_n 0, 1) by decide +kernel) rfl
set_option maxRecDepth 20000 in
theorem i150_37 : ex_ X d 150 37 [v0, v1, v2, v3, v4] [w0] h Q = ex_ X d 150 38 [v0, v1, v2, v3, v4] [.int 1, w0] h Q := R_iconst (show mx_at 150 37 = some (.iconst 1, 1) by decide +kernel) (by decide)
set_option maxRecDepth 20000 in
theorem i150_38 (hc : co_ h a = some 12) : ex_ X (d + 1) 150 38 [v0, v1, v2, v3, v4] [.int x0, .ref a] h Q = ev_ X d 123 [.ref a, .int x0] h (fun r h' => ex_ X (d + 1) 150 41 [v0, v1, v2, v3, v4] (r.toList ++ []) h' Q) := R_vir (show mx_at 150 38 = some (.invokevirtual 131, 3) by decide +kernel) (mx_clk ow150 cc12_131) (Nat.le_of_ble_eq_true rfl) rfl rfl hc rfl (Nat.le_of_ble_eq_true rfl) (Nat.le_of_ble_eq_true rfl) (by rw [ml123]; exact Nat.le_of_ble_eq_true rfl)
set_option maxRecDepth 20000 in
theorem i150_41 : ex_ X d 150 41 [v0, v1, v2, v3, v4] [.int x] h Q = Q (some (.int x)) h := ex_ret (show mx_at 150 41 = some (.ireturn, 1) by decide +kernel) (mx_retI rt150)
set_option maxRecDepth 20000 in
theorem i150_42 : ex_ X d 150 42 [.ref a, v1, v2, v3, v4] [] h Q = ex_ X d 150 43 [.ref a, v1, v2, v3, v4] [.ref a] h Q := ex_nx (show mx_at 150 42 = some (.aload_n 0, 1) by decide +kernel) rfl
set_option maxRecDepth 20000 in
theorem i150_43 : ex_ X d 150 43 [v0, v1, v2, v3, v4] [.ref a] h Q = (gk_ h a 0 [(12, 0)] = true ∧ ex_ X d 150 46 [v0, v1, v2, v3, v4] [gv_ h a 0] h Q) := R_getf (show mx_at 150 43 = some (.getfield 7, 3) by decide +kernel) (mx_fdo ow150 fd120007)
set_option maxRecDepth 20000 in
theorem i150_46 : ex_ X d 150 46 [v0, v1, v2, v3, v4] [w0] h Q = ex_ X d 150 47 [v0, v1, v2, v3, v4] [.int 1, w0] h Q := R_iconst (show mx_at 150 46 = some (.iconst 1, 1) by decide +kernel) (by decide)
set_option maxRecDepth 20000 in
theorem i150_47 : ex_ X d 150 47 [v0, v1, v2, v3, v4] [.int i, .ref a] h Q = (ik_ h a i = true ∧ ex_ X d 150 48 [v0, v1, v2, v3, v4] [.int (ia_ h a i)] h Q) := R_iald (show mx_at 150 47 = some (.iaload, 1) by decide +kernel)
set_option maxRecDepth 20000 in
theorem i150_48 : ex_ X d 150 48 [v0, v1, v2, v3, v4] [w0] h Q = ex_ X d 150 50 [v0, v1, v2, v3, v4] [.int 6, w0] h Q := R_bipush (show mx_at 150 48 = some (.bipush 6, 2) by decide +kernel) (by decide)
set_option maxRecDepth 20000 in
theorem i150_50 : ex_ X d 150 50 [v0, v1, v2, v3, v4] [.int y, .int x] h Q = if ¬ x = y then ex_ X d 150 59 [v0, v1, v2, v3, v4] [] h Q else ex_ X d 150 53 [v0, v1, v2, v3, v4] [] h Q := (R_br (show mx_at 150 50 = some (.if_icmp .ne 9, 3) by decide +kernel) rfl rfl).trans mx_ite
set_option maxRecDepth 20000 in
theorem i150_53 : ex_ X d 150 53 [.ref a, v1, v2, v3, v4] [] h Q = ex_ X d 150 54 [.ref a, v1, v2, v3, v4] [.ref a] h Q := ex_nx (show mx_at 150 53 = some (.aload_n 0, 1) by decide +kernel) rfl
set_option maxRecDepth 20000 in
theorem i150_54 : ex_ X d 150 54 [v0, v1, v2, v3, v4] [w0] h Q = ex_ X d 150 55 [v0, v1, v2, v3, v4] [.int 4, w0] h Q := R_iconst (show mx_at 150 54 = some (.iconst 4, 1) by decide +kernel) (by decide)
set_option maxRecDepth 20000 in
theorem i150_55 (hc : co_ h a = some 12) : ex_ X (d + 1) 150 55 [v0, v1, v2, v3, v4] [.int x0, .ref a] h Q = ev_ X d 123 [.ref a, .int x0] h (fun r h' => ex_ X (d + 1) 150 58 [v0, v1, v2, v3, v4] (r.toList ++ []) h' Q) := R_vir (show mx_at 150 55 = some (.invokevirtual 131, 3) by decide +kernel) (mx_clk ow150 cc12_131) (Nat.le_of_ble_eq_true rfl) rfl rfl hc rfl (Nat.le_of_ble_eq_true rfl) (Nat.le_of_ble_eq_true rfl) (by rw [ml123]; exact Nat.le_of_ble_eq_true rfl)
set_option maxRecDepth 20000 in
theorem i150_58 : ex_ X d 150 58 [v0, v1, v2, v3, v4] [.int x] h Q = Q (some (.int x)) h := ex_ret (show mx_at 150 58 = some (.ireturn, 1) by decide +kernel) (mx_retI rt150)
set_option maxRecDepth 20000 in
theorem i150_59 : ex_ X d 150 59 [v0, v1, v2, v3, v4] [] h Q = ex_ X d 150 61 [v0, v1, v2, v3, v4] [.int 20] h Q := R_bipush (show mx_at 150 59 = some (.bipush 20, 2) by decide +kernel) (by decide)
set_option maxRecDepth 20000 in
theorem i150_61 : ex_ X d 150 61 [v0, v1, v2, v3, v4] [w0] h Q = ex_ X d 150 63 [v0, v1, v2, v3, v4] [.int 8, w0] h Q := R_bipush (show mx_at 150 61 = some (.bipush 8, 2) by decide +kernel) (by decide)
set_option maxRecDepth 20000 in
theorem i150_63 : ex_ X d 150 63 [.ref a, v1, v2, v3, v4] [w0, w1] h Q = ex_ X d 150 64 [.ref a, v1, v2, v3, v4] [.ref a, w0, w1] h Q := ex_nx (show mx_at 150 63 = some (.aload_n 0, 1) by decide +kernel) rfl
set_option maxRecDepth 20000 in
theorem i150_64 : ex_ X d 150 64 [v0, v1, v2, v3, v4] [.ref a, w0, w1] h Q = (gk_ h a 0 [(12, 0)] = true ∧ ex_ X d 150 67 [v0, v1, v2, v3, v4] [gv_ h a 0, w0, w1] h Q) := R_getf (show mx_at 150 64 = some (.getfield 7, 3) by decide +kernel) (mx_fdo ow150 fd120007)
set_option maxRecDepth 20000 in
theorem i150_67 : ex_ X d 150 67 [v0, v1, v2, v3, v4] [w0, w1, w2] h Q = ex_ X d 150 68 [v0, v1, v2, v3, v4] [.int 1, w0, w1, w2] h Q := R_iconst (show mx_at 150 67 = some (.iconst 1, 1) by decide +kernel) (by decide)
set_option maxRecDepth 20000 in
theorem i150_68 : ex_ X d 150 68 [v0, v1, v2, v3, v4] [.int i, .ref a, w0, w1] h Q = (ik_ h a i = true ∧ ex_ X d 150 69 [v0, v1, v2, v3, v4] [.int (ia_ h a i), w0, w1] h Q) := R_iald (show mx_at 150 68 = some (.iaload, 1) by decide +kernel)
set_option maxRecDepth 20000 in
theorem i150_69 : ex_ X d 150 69 [v0, v1, v2, v3, v4] [.int y, .int x, w0] h Q = ex_ X d 150 70 [v0, v1, v2, v3, v4] [.int (x * y), w0] h Q := ex_nx (show mx_at 150 69 = some (.imul, 1) by decide +kernel) rfl
set_option maxRecDepth 20000 in
theorem i150_70 : ex_ X d 150 70 [v0, v1, v2, v3, v4] [.int y, .int x] h Q = ex_ X d 150 71 [v0, v1, v2, v3, v4] [.int (x + y)] h Q := ex_nx (show mx_at 150 70 = some (.iadd, 1) by decide +kernel) rfl
set_option maxRecDepth 20000 in
theorem i150_71 : ex_ X d 150 71 [v0, v1, v2, v3, v4] [.int x] h Q = (mx_nl v3 = true ∧ ex_ X d 150 73 [v0, v1, v2, v3, .int x] [] h Q) := mx_t1 (R_st (ok := mx_isI) (n := 4) (w := 2) (show mx_at 150 71 = some (.istore 4, 2) by decide +kernel) (fun _ _ => rfl) (Nat.le_of_ble_eq_true rfl)) rfl
set_option maxRecDepth 20000 in
theorem i150_73 : ex_ X d 150 73 [.ref a, v1, v2, v3, v4] [] h Q = ex_ X d 150 74 [.ref a, v1, v2, v3, v4] [.ref a] h Q := ex_nx (show mx_at 150 73 = some (.aload_n 0, 1) by decide +kernel) rfl
set_option maxRecDepth 20000 in
theorem i150_74 : ex_ X d 150 74 [v0, v1, v2, v3, v4] [.ref a] h Q = (gk_ h a 0 [(12, 0)] = true ∧ ex_ X d 150 77 [v0, v1, v2, v3, v4] [gv_ h a 0] h Q) := R_getf (show mx_at 150 74 = some (.getfield 7, 3) by decide +kernel) (mx_fdo ow150 fd120007)
set_option maxRecDepth 20000 in
theorem i150_77 : ex_ X d 150 77 [v0, v1, v2, v3, .int x] [w0] h Q = ex_ X d 150 79 [v0, v1, v2, v3, .int x] [.int x, w0] h Q := ex_nx (show mx_at 150 77 = some (.iload 4, 2) by decide +kernel) rfl
set_option maxRecDepth 20000 in
theorem i150_79 : ex_ X d 150 79 [v0, v1, v2, v3, v4] [w0, w1] h Q = ex_ X d 150 80 [v0, v1, v2, v3, v4] [.int 0, w0, w1] h Q := R_iconst (show mx_at 150 79 = some (.iconst 0, 1) by decide +kernel) (by decide)
set_option maxRecDepth 20000 in
theorem i150_80 : ex_ X d 150 80 [v0, v1, v2, v3, v4] [.int y, .int x, w0] h Q = ex_ X d 150 81 [v0, v1, v2, v3, v4] [.int (x + y), w0] h Q := ex_nx (show mx_at 150 80 = some (.iadd, 1) by decide +kernel) rfl
set_option maxRecDepth 20000 in
theorem i150_81 : ex_ X d 150 81 [v0, .int x, v2, v3, v4] [w0, w1] h Q = ex_ X d 150 82 [v0, .int x, v2, v3, v4] [.int x, w0, w1] h Q := ex_nx (show mx_at 150 81 = some (.iload_n 1, 1) by decide +kernel) rfl
set_option maxRecDepth 20000 in
theorem i150_82 : ex_ X d 150 82 [v0, v1, v2, v3, v4] [.int x, .int i, .ref a] h Q = (ik_ h a i = true ∧ ex_ X d 150 83 [v0, v1, v2, v3, v4] [] (is_ h a i x) Q) := R_iast (show mx_at 150 82 = some (.iastore, 1) by decide +kernel)
set_option maxRecDepth 20000 in
theorem i150_83 : ex_ X d 150 83 [.ref a, v1, v2, v3, v4] [] h Q = ex_ X d 150 84 [.ref a, v1, v2, v3, v4] [.ref a] h Q := ex_nx (show mx_at 150 83 = some (.aload_n 0, 1) by decide +kernel) rfl
set_option maxRecDepth 20000 in
theorem i150_84 : ex_ X d 150 84 [v0, v1, v2, v3, v4] [.ref a] h Q = (gk_ h a 0 [(12, 0)] = true ∧ ex_ X d 150 87 [v0, v1, v2, v3, v4] [gv_ h a 0] h Q) := R_getf (show mx_at 150 84 = some (.getfield 7, 3) by decide +kernel) (mx_fdo ow150 fd120007)
set_option maxRecDepth 20000 in
theorem i150_87 : ex_ X d 150 87 [v0, v1, v2, v3, .int x] [w0] h Q = ex_ X d 150 89 [v0, v1, v2, v3, .int x] [.int x, w0] h Q := ex_nx (show mx_at 150 87 = some (.iload 4, 2) by decide +kernel) rfl
set_option maxRecDepth 20000 in
theorem i150_89 : ex_ X d 150 89 [v0, v1, v2, v3, v4] [w0, w1] h Q = ex_ X d 150 90 [v0, v1, v2, v3, v4] [.int 1, w0, w1] h Q := R_iconst (show mx_at 150 89 = some (.iconst 1, 1) by decide +kernel) (by decide)
set_option maxRecDepth 20000 in
theorem i150_90 : ex_ X d 150 90 [v0, v1, v2, v3, v4] [.int y, .int x, w0] h Q = ex_ X d 150 91 [v0, v1, v2, v3, v4] [.int (x + y), w0] h Q := ex_nx (show mx_at 150 90 = some (.iadd, 1) by decide +kernel) rfl
set_option maxRecDepth 20000 in
theorem i150_91 : ex_ X d 150 91 [v0, v1, .int x, v3, v4] [w0, w1] h Q = ex_ X d 150 92 [v0, v1, .int x, v3, v4] [.int x, w0, w1] h Q := ex_nx (show mx_at 150 91 = some (.iload_n 2, 1) by decide +kernel) rfl
set_option maxRecDepth 20000 in
theorem i150_92 : ex_ X d 150 92 [v0, v1, v2, v3, v4] [.int x, .int i, .ref a] h Q = (ik_ h a i = true ∧ ex_ X d 150 93 [v0, v1, v2, v3, v4] [] (is_ h a i x) Q) := R_iast (show mx_at 150 92 = some (.iastore, 1) by decide +kernel)
set_option maxRecDepth 20000 in
theorem i150_93 : ex_ X d 150 93 [.ref a, v1, v2, v3, v4] [] h Q = ex_ X d 150 94 [.ref a, v1, v2, v3, v4] [.ref a] h Q := ex_nx (show mx_at 150 93 = some (.aload_n 0, 1) by decide +kernel) rfl
set_option maxRecDepth 20000 in
theorem i150_94 : ex_ X d 150 94 [v0, v1, v2, v3, v4] [.ref a] h Q = (gk_ h a 0 [(12, 0)] = true ∧ ex_ X d 150 97 [v0, v1, v2, v3, v4] [gv_ h a 0] h Q) := R_getf (show mx_at 150 94 = some (.getfield 7, 3) by decide +kernel) (mx_fdo ow150 fd120007)
set_option maxRecDepth 20000 in
theorem i150_97 : ex_ X d 150 97 [v0, v1, v2, v3, .int x] [w0] h Q = ex_ X d 150 99 [v0, v1, v2, v3, .int x] [.int x, w0] h Q := ex_nx (show mx_at 150 97 = some (.iload 4, 2) by decide +kernel) rfl
set_option maxRecDepth 20000 in
theorem i150_99 : ex_ X d 150 99 [v0, v1, v2, v3, v4] [w0, w1] h Q = ex_ X d 150 100 [v0, v1, v2, v3, v4] [.int 2, w0, w1] h Q := R_iconst (show mx_at 150 99 = some (.iconst 2, 1) by decide +kernel) (by decide)
set_option maxRecDepth 20000 in
theorem i150_100 : ex_ X d 150 100 [v0, v1, v2, v3, v4] [.int y, .int x, w0] h Q = ex_ X d 150 101 [v0, v1, v2, v3, v4] [.int (x + y), w0] h Q := ex_nx (show mx_at 150 100 = some (.iadd, 1) by decide +kernel) rfl
set_option maxRecDepth 20000 in
theorem i150_101 : ex_ X d 150 101 [v0, v1, v2, .int x, v4] [w0, w1] h Q = ex_ X d 150 102 [v0, v1, v2, .int x, v4] [.int x, w0, w1] h Q := ex_nx (show mx_at 150 101 = some (.iload_n 3, 1) by decide +kernel) rfl
set_option maxRecDepth 20000 in
theorem i150_102 : ex_ X d 150 102 [v0, v1, v2, v3, v4] [w0, w1, w2] h Q = ex_ X d 150 104 [v0, v1, v2, v3, v4] [.int 10, w0, w1, w2] h Q := R_bipush (show mx_at 150 102 = some (.bipush 10, 2) by decide +kernel) (by decide)
set_option maxRecDepth 20000 in
theorem i150_104 : ex_ X d 150 104 [v0, v1, v2, v3, v4] [.int y, .int x, w0, w1] h Q = (y ≠ 0 ∧ ex_ X d 150 105 [v0, v1, v2, v3, v4] [.int (x / y), w0, w1] h Q) := R_div (show mx_at 150 104 = some (.idiv, 1) by decide +kernel)
set_option maxRecDepth 20000 in
theorem i150_105 : ex_ X d 150 105 [v0, v1, v2, v3, v4] [.int x, .int i, .ref a] h Q = (ik_ h a i = true ∧ ex_ X d 150 106 [v0, v1, v2, v3, v4] [] (is_ h a i x) Q) := R_iast (show mx_at 150 105 = some (.iastore, 1) by decide +kernel)
set_option maxRecDepth 20000 in
theorem i150_106 : ex_ X d 150 106 [.ref a, v1, v2, v3, v4] [] h Q = ex_ X d 150 107 [.ref a, v1, v2, v3, v4] [.ref a] h Q := ex_nx (show mx_at 150 106 = some (.aload_n 0, 1) by decide +kernel) rfl
set_option maxRecDepth 20000 in
theorem i150_107 : ex_ X d 150 107 [v0, v1, v2, v3, v4] [.ref a] h Q = (gk_ h a 0 [(12, 0)] = true ∧ ex_ X d 150 110 [v0, v1, v2, v3, v4] [gv_ h a 0] h Q) := R_getf (show mx_at 150 107 = some (.getfield 7, 3) by decide +kernel) (mx_fdo ow150 fd120007)
set_option maxRecDepth 20000 in
theorem i150_110 : ex_ X d 150 110 [v0, v1, v2, v3, .int x] [w0] h Q = ex_ X d 150 112 [v0, v1, v2, v3, .int x] [.int x, w0] h Q := ex_nx (show mx_at 150 110 = some (.iload 4, 2) by decide +kernel) rfl
set_option maxRecDepth 20000 in
theorem i150_112 : ex_ X d 150 112 [v0, v1, v2, v3, v4] [w0, w1] h Q = ex_ X d 150 113 [v0, v1, v2, v3, v4] [.int 3, w0, w1] h Q := R_iconst (show mx_at 150 112 = some (.iconst 3, 1) by decide +kernel) (by decide)
set_option maxRecDepth 20000 in
theorem i150_113 : ex_ X d 150 113 [v0, v1, v2, v3, v4] [.int y, .int x, w0] h Q = ex_ X d 150 114 [v0, v1, v2, v3, v4] [.int (x + y), w0] h Q := ex_nx (show mx_at 150 113 = some (.iadd, 1) by decide +kernel) rfl
set_option maxRecDepth 20000 in
theorem i150_114 : ex_ X d 150 114 [v0, v1, v2, .int x, v4] [w0, w1] h Q = ex_ X d 150 115 [v0, v1, v2, .int x, v4] [.int x, w0, w1] h Q := ex_nx (show mx_at 150 114 = some (.iload_n 3, 1) by decide +kernel) rfl
set_option maxRecDepth 20000 in
theorem i150_115 : ex_ X d 150 115 [v0, v1, v2, v3, v4] [w0, w1, w2] h Q = ex_ X d 150 117 [v0, v1, v2, v3, v4] [.int 10, w0, w1, w2] h Q := R_bipush (show mx_at 150 115 = some (.bipush 10, 2) by decide +kernel) (by decide)
set_option maxRecDepth 20000 in
theorem i150_117 : ex_ X d 150 117 [v0, v1, v2, v3, v4] [.int y, .int x, w0, w1] h Q = (y ≠ 0 ∧ ex_ X d 150 118 [v0, v1, v2, v3, v4] [.int (x - x / y * y), w0, w1] h Q) := R_rem (show mx_at 150 117 = some (.irem, 1) by decide +kernel)
set_option maxRecDepth 20000 in
theorem i150_118 : ex_ X d 150 118 [v0, v1, v2, v3, v4] [.int x, .int i, .ref a] h Q = (ik_ h a i = true ∧ ex_ X d 150 119 [v0, v1, v2, v3, v4] [] (is_ h a i x) Q) := R_iast (show mx_at 150 118 = some (.iastore, 1) by decide +kernel)
set_option maxRecDepth 20000 in
theorem i150_119 : ex_ X d 150 119 [.ref a, v1, v2, v3, v4] [] h Q = ex_ X d 150 120 [.ref a, v1, v2, v3, v4] [.ref a] h Q := ex_nx (show mx_at 150 119 = some (.aload_n 0, 1) by decide +kernel) rfl
set_option maxRecDepth 20000 in
theorem i150_120 : ex_ X d 150 120 [v0, v1, v2, v3, v4] [.ref a] h Q = (gk_ h a 0 [(12, 0)] = true ∧ ex_ X d 150 123 [v0, v1, v2, v3, v4] [gv_ h a 0] h Q) := R_getf (show mx_at 150 120 = some (.getfield 7, 3) by decide +kernel) (mx_fdo ow150 fd120007)
set_option maxRecDepth 20000 in
theorem i150_123 : ex_ X d 150 123 [v0, v1, v2, v3, .int x] [w0] h Q = ex_ X d 150 125 [v0, v1, v2, v3, .int x] [.int x, w0] h Q := ex_nx (show mx_at 150 123 = some (.iload 4, 2) by decide +kernel) rfl
set_option maxRecDepth 20000 in
theorem i150_125 : ex_ X d 150 125 [v0, v1, v2, v3, v4] [w0, w1] h Q = ex_ X d 150 126 [v0, v1, v2, v3, v4] [.int 4, w0, w1] h Q := R_iconst (show mx_at 150 125 = some (.iconst 4, 1) by decide +kernel) (by decide)
set_option maxRecDepth 20000 in
theorem i150_126 : ex_ X d 150 126 [v0, v1, v2, v3, v4] [.int y, .int x, w0] h Q = ex_ X d 150 127 [v0, v1, v2, v3, v4] [.int (x + y), w0] h Q := ex_nx (show mx_at 150 126 = some (.iadd, 1) by decide +kernel) rfl
set_option maxRecDepth 20000 in
theorem i150_127 : ex_ X d 150 127 [v0, v1, v2, v3, v4] [w0, w1] h Q = ex_ X d 150 128 [v0, v1, v2, v3, v4] [.int 0, w0, w1] h Q := R_iconst (show mx_at 150 127 = some (.iconst 0, 1) by decide +kernel) (by decide)
set_option maxRecDepth 20000 in
theorem i150_128 : ex_ X d 150 128 [v0, v1, v2, v3, v4] [.int x, .int i, .ref a] h Q = (ik_ h a i = true ∧ ex_ X d 150 129 [v0, v1, v2, v3, v4] [] (is_ h a i x) Q) := R_iast (show mx_at 150 128 = some (.iastore, 1) by decide +kernel)
set_option maxRecDepth 20000 in
theorem i150_129 : ex_ X d 150 129 [.ref a, v1, v2, v3, v4] [] h Q = ex_ X d 150 130 [.ref a, v1, v2, v3, v4] [.ref a] h Q := ex_nx (show mx_at 150 129 = some (.aload_n 0, 1) by decide +kernel) rfl
set_option maxRecDepth 20000 in
theorem i150_130 : ex_ X d 150 130 [v0, v1, v2, v3, v4] [.ref a] h Q = (gk_ h a 0 [(12, 0)] = true ∧ ex_ X d 150 133 [v0, v1, v2, v3, v4] [gv_ h a 0] h Q) := R_getf (show mx_at 150 130 = some (.getfield 7, 3) by decide +kernel) (mx_fdo ow150 fd120007)
set_option maxRecDepth 20000 in
theorem i150_133 : ex_ X d 150 133 [v0, v1, v2, v3, .int x] [w0] h Q = ex_ X d 150 135 [v0, v1, v2, v3, .int x] [.int x, w0] h Q := ex_nx (show mx_at 150 133 = some (.iload 4, 2) by decide +kernel) rfl
set_option maxRecDepth 20000 in
theorem i150_135 : ex_ X d 150 135 [v0, v1, v2, v3, v4] [w0, w1] h Q = ex_ X d 150 136 [v0, v1, v2, v3, v4] [.int 5, w0, w1] h Q := R_iconst (show mx_at 150 135 = some (.iconst 5, 1) by decide +kernel) (by decide)
set_option maxRecDepth 20000 in
theorem i150_136 : ex_ X d 150 136 [v0, v1, v2, v3, v4] [.int y, .int x, w0] h Q = ex_ X d 150 137 [v0, v1, v2, v3, v4] [.int (x + y), w0] h Q := ex_nx (show mx_at 150 136 = some (.iadd, 1) by decide +kernel) rfl
set_option maxRecDepth 20000 in
theorem i150_137 : ex_ X d 150 137 [v0, v1, v2, v3, v4] [w0, w1] h Q = ex_ X d 150 138 [v0, v1, v2, v3, v4] [.int 0, w0, w1] h Q := R_iconst (show mx_at 150 137 = some (.iconst 0, 1) by decide +kernel) (by decide)
set_option maxRecDepth 20000 in
theorem i150_138 : ex_ X d 150 138 [v0, v1, v2, v3, v4] [.int x, .int i, .ref a] h Q = (ik_ h a i = true ∧ ex_ X d 150 139 [v0, v1, v2, v3, v4] [] (is_ h a i x) Q) := R_iast (show mx_at 150 138 = some (.iastore, 1) by decide +kernel)
set_option maxRecDepth 20000 in
theorem i150_139 : ex_ X d 150 139 [.ref a, v1, v2, v3, v4] [] h Q = ex_ X d 150 140 [.ref a, v1, v2, v3, v4] [.ref a] h Q := ex_nx (show mx_at 150 139 = some (.aload_n 0, 1) by decide +kernel) rfl
set_option maxRecDepth 20000 in
theorem i150_140 : ex_ X d 150 140 [v0, v1, v2, v3, v4] [.ref a] h Q = (gk_ h a 0 [(12, 0)] = true ∧ ex_ X d 150 143 [v0, v1, v2, v3, v4] [gv_ h a 0] h Q) := R_getf (show mx_at 150 140 = some (.getfield 7, 3) by decide +kernel) (mx_fdo ow150 fd120007)
set_option maxRecDepth 20000 in
theorem i150_143 : ex_ X d 150 143 [v0, v1, v2, v3, .int x] [w0] h Q = ex_ X d 150 145 [v0, v1, v2, v3, .int x] [.int x, w0] h Q := ex_nx (show mx_at 150 143 = some (.iload 4, 2) by decide +kernel) rfl
set_option maxRecDepth 20000 in
theorem i150_145 : ex_ X d 150 145 [v0, v1, v2, v3, v4] [w0, w1] h Q = ex_ X d 150 147 [v0, v1, v2, v3, v4] [.int 6, w0, w1] h Q := R_bipush (show mx_at 150 145 = some (.bipush 6, 2) by decide +kernel) (by decide)
set_option maxRecDepth 20000 in
theorem i150_147 : ex_ X d 150 147 [v0, v1, v2, v3, v4] [.int y, .int x, w0] h Q = ex_ X d 150 148 [v0, v1, v2, v3, v4] [.int (x + y), w0] h Q := ex_nx (show mx_at 150 147 = some (.iadd, 1) by decide +kernel) rfl
set_option maxRecDepth 20000 in
theorem i150_148 : ex_ X d 150 148 [v0, v1, v2, v3, v4] [w0, w1] h Q = ex_ X d 150 149 [v0, v1, v2, v3, v4] [.int (-1), w0, w1] h Q := R_iconst (show mx_at 150 148 = some (.iconst (-1), 1) by decide +kernel) (by decide)
set_option maxRecDepth 20000 in
theorem i150_149 : ex_ X d 150 149 [v0, v1, v2, v3, v4] [.int x, .int i, .ref a] h Q = (ik_ h a i = true ∧ ex_ X d 150 150 [v0, v1, v2, v3, v4] [] (is_ h a i x) Q) := R_iast (show mx_at 150 149 = some (.iastore, 1) by decide +kernel)
set_option maxRecDepth 20000 in
theorem i150_150 : ex_ X d 150 150 [.ref a, v1, v2, v3, v4] [] h Q = ex_ X d 150 151 [.ref a, v1, v2, v3, v4] [.ref a] h Q := ex_nx (show mx_at 150 150 = some (.aload_n 0, 1) by decide +kernel) rfl
set_option maxRecDepth 20000 in
theorem i150_151 : ex_ X d 150 151 [v0, v1, v2, v3, v4] [.ref a] h Q = (gk_ h a 0 [(12, 0)] = true ∧ ex_ X d 150 154 [v0, v1, v2, v3, v4] [gv_ h a 0] h Q) := R_getf (show mx_at 150 151 = some (.getfield 7, 3) by decide +kernel) (mx_fdo ow150 fd120007)
set_option maxRecDepth 20000 in
theorem i150_154 : ex_ X d 150 154 [v0, v1, v2, v3, v4] [w0] h Q = ex_ X d 150 155 [v0, v1, v2, v3, v4] [.int 1, w0] h Q := R_iconst (show mx_at 150 154 = some (.iconst 1, 1) by decide +kernel) (by decide)
set_option maxRecDepth 20000 in
theorem i150_155 : ex_ X d 150 155 [v0, v1, v2, v3, v4] [.int x, .ref a] h Q = ex_ X d 150 156 [v0, v1, v2, v3, v4] [.int x, .ref a, .int x, .ref a] h Q := ex_nx (show mx_at 150 155 = some (.dup2, 1) by decide +kernel) rfl
set_option maxRecDepth 20000 in
theorem i150_156 : ex_ X d 150 156 [v0, v1, v2, v3, v4] [.int i, .ref a, w0, w1] h Q = (ik_ h a i = true ∧ ex_ X d 150 157 [v0, v1, v2, v3, v4] [.int (ia_ h a i), w0, w1] h Q) := R_iald (show mx_at 150 156 = some (.iaload, 1) by decide +kernel)
set_option maxRecDepth 20000 in
theorem i150_157 : ex_ X d 150 157 [v0, v1, v2, v3, v4] [w0, w1, w2] h Q = ex_ X d 150 158 [v0, v1, v2, v3, v4] [.int 1, w0, w1, w2] h Q := R_iconst (show mx_at 150 157 = some (.iconst 1, 1) by decide +kernel) (by decide)
set_option maxRecDepth 20000 in
theorem i150_158 : ex_ X d 150 158 [v0, v1, v2, v3, v4] [.int y, .int x, w0, w1] h Q = ex_ X d 150 159 [v0, v1, v2, v3, v4] [.int (x + y), w0, w1] h Q := ex_nx (show mx_at 150 158 = some (.iadd, 1) by decide +kernel) rfl
set_option maxRecDepth 20000 in
theorem i150_159 : ex_ X d 150 159 [v0, v1, v2, v3, v4] [.int x, .int i, .ref a] h Q = (ik_ h a i = true ∧ ex_ X d 150 160 [v0, v1, v2, v3, v4] [] (is_ h a i x) Q) := R_iast (show mx_at 150 159 = some (.iastore, 1) by decide +kernel)
set_option maxRecDepth 20000 in
theorem i150_160 : ex_ X d 150 160 [.ref a, v1, v2, v3, v4] [] h Q = ex_ X d 150 161 [.ref a, v1, v2, v3, v4] [.ref a] h Q := ex_nx (show mx_at 150 160 = some (.aload_n 0, 1) by decide +kernel) rfl
set_option maxRecDepth 20000 in
theorem i150_161 : ex_ X d 150 161 [v0, v1, v2, v3, v4] [.ref a] h Q = (gk_ h a 0 [(12, 0)] = true ∧ ex_ X d 150 164 [v0, v1, v2, v3, v4] [gv_ h a 0] h Q) := R_getf (show mx_at 150 161 = some (.getfield 7, 3) by decide +kernel) (mx_fdo ow150 fd120007)
set_option maxRecDepth 20000 in
theorem i150_164 : ex_ X d 150 164 [v0, v1, v2, v3, v4] [w0] h Q = ex_ X d 150 165 [v0, v1, v2, v3, v4] [.int 1, w0] h Q := R_iconst (show mx_at 150 164 = some (.iconst 1, 1) by decide +kernel) (by decide)
set_option maxRecDepth 20000 in
theorem i150_165 : ex_ X d 150 165 [v0, v1, v2, v3, v4] [.int i, .ref a] h Q = (ik_ h a i = true ∧ ex_ X d 150 166 [v0, v1, v2, v3, v4] [.int (ia_ h a i)] h Q) := R_iald (show mx_at 150 165 = some (.iaload, 1) by decide +kernel)
set_option maxRecDepth 20000 in
theorem i150_166 : ex_ X d 150 166 [v0, v1, v2, v3, v4] [w0] h Q = ex_ X d 150 167 [v0, v1, v2, v3, v4] [.int 1, w0] h Q := R_iconst (show mx_at 150 166 = some (.iconst 1, 1) by decide +kernel) (by decide)
set_option maxRecDepth 20000 in
theorem i150_167 : ex_ X d 150 167 [v0, v1, v2, v3, v4] [.int y, .int x] h Q = ex_ X d 150 168 [v0, v1, v2, v3, v4] [.int (x - y)] h Q := ex_nx (show mx_at 150 167 = some (.isub, 1) by decide +kernel) rfl
set_option maxRecDepth 20000 in
theorem i150_168 : ex_ X d 150 168 [v0, v1, v2, v3, v4] [.int x] h Q = Q (some (.int x)) h := ex_ret (show mx_at 150 168 = some (.ireturn, 1) by decide +kernel) (mx_retI rt150)
theorem i150_e : ev_ X d 150 [.ref a, .int x0, .int x1, .int x2] h Q = ex_ X d 150 0 [.ref a, .int x0, .int x1, .int x2, .double 0] [] h Q := by rw [ev_, ml150]; rfl
-- 151 X12_would
set_option maxRecDepth 20000 in
theorem i151_0 : ex_ X d 151 0 [.ref a, v1, v2, v3, v4, v5, v6, v7, v8] [] h Q = ex_ X d 151 1 [.ref a, v1, v2, v3, v4, v5, v6, v7, v8] [.ref a] h Q := ex_nx (show mx_at 151 0 = some (.aload_n 0, 1) by decide +kernel) rfl
set_option maxRecDepth 20000 in
theorem i151_1 : ex_ X d 151 1 [v0, .int x, v2, v3, v4, v5, v6, v7, v8] [w0] h Q = ex_ X d 151 2 [v0, .int x, v2, v3, v4, v5, v6, v7, v8] [.int x, w0] h Q := ex_nx (show mx_at 151 1 = some (.iload_n 1, 1) by decide +kernel) rfl
set_option maxRecDepth 20000 in
theorem i151_2 : ex_ X d 151 2 [v0, v1, v2, v3, v4, v5, v6, v7, v8] [w0, w1] h Q = ex_ X d 151 4 [v0, v1, v2, v3, v4, v5, v6, v7, v8] [.int 6, w0, w1] h Q := R_bipush (show mx_at 151 2 = some (.bipush 6, 2) by decide +kernel) (by decide)
set_option maxRecDepth 20000 in
theorem i151_4 : ex_ X (d + 1) 151 4 [v0, v1, v2, v3, v4, v5, v6, v7, v8] [.int x2, .int x1, .ref a0] h Q = ev_ X d 129 [.ref a0, .int x1, .int x2] h (fun r h' => ex_ X (d + 1) 151 7 [v0, v1, v2, v3, v4, v5, v6, v7, v8] (r.toList ++ []) h' Q) := R_stat (show mx_at 151 4 = some (.invokestatic 154, 3) by decide +kernel) (mx_clk ow151 cc12_154) (Nat.le_of_ble_eq_true rfl) rfl rfl (Nat.le_of_ble_eq_true rfl) ml129 (Nat.le_of_ble_eq_true rfl)
set_option maxRecDepth 20000 in
theorem i151_7 : ex_ X d 151 7 [v0, v1, v2, v3, v4, v5, v6, v7, v8] [.int x] h Q = (mx_nl v1 = true ∧ ex_ X d 151 8 [v0, v1, .int x, v3, v4, v5, v6, v7, v8] [] h Q) := mx_t1 (R_st (ok := mx_isI) (n := 2) (w := 1) (show mx_at 151 7 = some (.istore_n 2, 1) by decide +kernel) (fun _ _ => rfl) (Nat.le_of_ble_eq_true rfl)) rfl
set_option maxRecDepth 20000 in
theorem i151_8 : ex_ X d 151 8 [.ref a, v1, v2, v3, v4, v5, v6, v7, v8] [] h Q = ex_ X d 151 9 [.ref a, v1, v2, v3, v4, v5, v6, v7, v8] [.ref a] h Q := ex_nx (show mx_at 151 8 = some (.aload_n 0, 1) by decide +kernel) rfl
set_option maxRecDepth 20000 in
theorem i151_9 : ex_ X d 151 9 [v0, .int x, v2, v3, v4, v5, v6, v7, v8] [w0] h Q = ex_ X d 151 10 [v0, .int x, v2, v3, v4, v5, v6, v7, v8] [.int x, w0] h Q := ex_nx (show mx_at 151 9 = some (.iload_n 1, 1) by decide +kernel) rfl
set_option maxRecDepth 20000 in
theorem i151_10 : ex_ X d 151 10 [v0, v1, v2, v3, v4, v5, v6, v7, v8] [w0, w1] h Q = ex_ X d 151 11 [v0, v1, v2, v3, v4, v5, v6, v7, v8] [.int 1, w0, w1] h Q := R_iconst (show mx_at 151 10 = some (.iconst 1, 1) by decide +kernel) (by decide)
set_option maxRecDepth 20000 in
theorem i151_11 : ex_ X (d + 1) 151 11 [v0, v1, v2, v3, v4, v5, v6, v7, v8] [.int x2, .int x1, .ref a0] h Q = ev_ X d 129 [.ref a0, .int x1, .int x2] h (fun r h' => ex_ X (d + 1) 151 14 [v0, v1, v2, v3, v4, v5, v6, v7, v8] (r.toList ++ []) h' Q) := R_stat (show mx_at 151 11 = some (.invokestatic 154, 3) by decide +kernel) (mx_clk ow151 cc12_154) (Nat.le_of_ble_eq_true rfl) rfl rfl (Nat.le_of_ble_eq_true rfl) ml129 (Nat.le_of_ble_eq_true rfl)
set_option maxRecDepth 20000 in
theorem i151_14 : ex_ X d 151 14 [v0, v1, v2, v3, v4, v5, v6, v7, v8] [.int x] h Q = (mx_nl v2 = true ∧ ex_ X d 151 15 [v0, v1, v2, .int x, v4, v5, v6, v7, v8] [] h Q) := mx_t1 (R_st (ok := mx_isI) (n := 3) (w := 1) (show mx_at 151 14 = some (.istore_n 3, 1) by decide +kernel) (fun _ _ => rfl) (Nat.le_of_ble_eq_true rfl)) rfl
set_option maxRecDepth 20000 in
theorem i151_15 : ex_ X d 151 15 [.ref a, v1, v2, v3, v4, v5, v6, v7, v8] [] h Q = ex_ X d 151 16 [.ref a, v1, v2, v3, v4, v5, v6, v7, v8] [.ref a] h Q := ex_nx (show mx_at 151 15 = some (.aload_n 0, 1) by decide +kernel) rfl
set_option maxRecDepth 20000 in
theorem i151_16 : ex_ X d 151 16 [v0, .int x, v2, v3, v4, v5, v6, v7, v8] [w0] h Q = ex_ X d 151 17 [v0, .int x, v2, v3, v4, v5, v6, v7, v8] [.int x, w0] h Q := ex_nx (show mx_at 151 16 = some (.iload_n 1, 1) by decide +kernel) rfl
set_option maxRecDepth 20000 in
theorem i151_17 : ex_ X d 151 17 [v0, v1, v2, v3, v4, v5, v6, v7, v8] [w0, w1] h Q = ex_ X d 151 18 [v0, v1, v2, v3, v4, v5, v6, v7, v8] [.int 4, w0, w1] h Q := R_iconst (show mx_at 151 17 = some (.iconst 4, 1) by decide +kernel) (by decide)
set_option maxRecDepth 20000 in
theorem i151_18 : ex_ X (d + 1) 151 18 [v0, v1, v2, v3, v4, v5, v6, v7, v8] [.int x2, .int x1, .ref a0] h Q = ev_ X d 129 [.ref a0, .int x1, .int x2] h (fun r h' => ex_ X (d + 1) 151 21 [v0, v1, v2, v3, v4, v5, v6, v7, v8] (r.toList ++ []) h' Q) := R_stat (show mx_at 151 18 = some (.invokestatic 154, 3) by decide +kernel) (mx_clk ow151 cc12_154) (Nat.le_of_ble_eq_true rfl) rfl rfl (Nat.le_of_ble_eq_true rfl) ml129 (Nat.le_of_ble_eq_true rfl)
set_option maxRecDepth 20000 in
theorem i151_21 : ex_ X d 151 21 [v0, v1, v2, v3, v4, v5, v6, v7, v8] [.int x] h Q = (mx_nl v3 = true ∧ ex_ X d 151 23 [v0, v1, v2, v3, .int x, v5, v6, v7, v8] [] h Q) := mx_t1 (R_st (ok := mx_isI) (n := 4) (w := 2) (show mx_at 151 21 = some (.istore 4, 2) by decide +kernel) (fun _ _ => rfl) (Nat.le_of_ble_eq_true rfl)) rfl
set_option maxRecDepth 20000 in
theorem i151_23 : ex_ X d 151 23 [.ref a, v1, v2, v3, v4, v5, v6, v7, v8] [] h Q = ex_ X d 151 24 [.ref a, v1, v2, v3, v4, v5, v6, v7, v8] [.ref a] h Q := ex_nx (show mx_at 151 23 = some (.aload_n 0, 1) by decide +kernel) rfl
set_option maxRecDepth 20000 in
theorem i151_24 : ex_ X d 151 24 [v0, .int x, v2, v3, v4, v5, v6, v7, v8] [w0] h Q = ex_ X d 151 25 [v0, .int x, v2, v3, v4, v5, v6, v7, v8] [.int x, w0] h Q := ex_nx (show mx_at 151 24 = some (.iload_n 1, 1) by decide +kernel) rfl
set_option maxRecDepth 20000 in
theorem i151_25 : ex_ X d 151 25 [v0, v1, v2, v3, v4, v5, v6, v7, v8] [w0, w1] h Q = ex_ X d 151 26 [v0, v1, v2, v3, v4, v5, v6, v7, v8] [.int 2, w0, w1] h Q := R_iconst (show mx_at 151 25 = some (.iconst 2, 1) by decide +kernel) (by decide)
set_option maxRecDepth 20000 in
theorem i151_26 : ex_ X (d + 1) 151 26 [v0, v1, v2, v3, v4, v5, v6, v7, v8] [.int x2, .int x1, .ref a0] h Q = ev_ X d 129 [.ref a0, .int x1, .int x2] h (fun r h' => ex_ X (d + 1) 151 29 [v0, v1, v2, v3, v4, v5, v6, v7, v8] (r.toList ++ []) h' Q) := R_stat (show mx_at 151 26 = some (.invokestatic 154, 3) by decide +kernel) (mx_clk ow151 cc12_154) (Nat.le_of_ble_eq_true rfl) rfl rfl (Nat.le_of_ble_eq_true rfl) ml129 (Nat.le_of_ble_eq_true rfl)
set_option maxRecDepth 20000 in
theorem i151_29 : ex_ X d 151 29 [v0, v1, v2, v3, v4, v5, v6, v7, v8] [.int x] h Q = (mx_nl v4 = true ∧ ex_ X d 151 31 [v0, v1, v2, v3, v4, .int x, v6, v7, v8] [] h Q) := mx_t1 (R_st (ok := mx_isI) (n := 5) (w := 2) (show mx_at 151 29 = some (.istore 5, 2) by decide +kernel) (fun _ _ => rfl) (Nat.le_of_ble_eq_true rfl)) rfl
set_option maxRecDepth 20000 in
theorem i151_31 : ex_ X d 151 31 [v0, v1, .int x, v3, v4, v5, v6, v7, v8] [] h Q = ex_ X d 151 32 [v0, v1, .int x, v3, v4, v5, v6, v7, v8] [.int x] h Q := ex_nx (show mx_at 151 31 = some (.iload_n 2, 1) by decide +kernel) rfl
set_option maxRecDepth 20000 in
theorem i151_32 : ex_ X d 151 32 [v0, v1, v2, v3, v4, v5, v6, v7, v8] [.int x] h Q = if 0 ≤ x then ex_ X d 151 41 [v0, v1, v2, v3, v4, v5, v6, v7, v8] [] h Q else ex_ X d 151 35 [v0, v1, v2, v3, v4, v5, v6, v7, v8] [] h Q := (R_br (show mx_at 151 32 = some (.ifCond .ge 9, 3) by decide +kernel) rfl rfl).trans mx_ite
set_option maxRecDepth 20000 in
theorem i151_35 : ex_ X d 151 35 [v0, v1, v2, v3, v4, v5, v6, v7, v8] [] h Q = ex_ X d 151 38 [v0, v1, v2, v3, v4, v5, v6, v7, v8] [.int 500] h Q := R_sipush (show mx_at 151 35 = some (.sipush 500, 3) by decide +kernel) (by decide)
set_option maxRecDepth 20000 in
theorem i151_38 : ex_ X d 151 38 [v0, v1, v2, v3, v4, v5, v6, v7, v8] [w0] h Q = ex_ X d 151 42 [v0, v1, v2, v3, v4, v5, v6, v7, v8] [w0] h Q := R_to (show mx_at 151 38 = some (.goto 4, 3) by decide +kernel) rfl rfl
set_option maxRecDepth 20000 in
theorem i151_41 : ex_ X d 151 41 [v0, v1, .int x, v3, v4, v5, v6, v7, v8] [] h Q = ex_ X d 151 42 [v0, v1, .int x, v3, v4, v5, v6, v7, v8] [.int x] h Q := ex_nx (show mx_at 151 41 = some (.iload_n 2, 1) by decide +kernel) rfl
set_option maxRecDepth 20000 in
theorem i151_42 : ex_ X d 151 42 [v0, v1, v2, v3, v4, v5, v6, v7, v8] [.int x] h Q = (mx_nl v5 = true ∧ ex_ X d 151 44 [v0, v1, v2, v3, v4, v5, .int x, v7, v8] [] h Q) := mx_t1 (R_st (ok := mx_isI) (n := 6) (w := 2) (show mx_at 151 42 = some (.istore 6, 2) by decide +kernel) (fun _ _ => rfl) (Nat.le_of_ble_eq_true rfl)) rfl
set_option maxRecDepth 20000 in
theorem i151_44 : ex_ X d 151 44 [v0, v1, .int x, v3, v4, v5, v6, v7, v8] [] h Q = ex_ X d 151 45 [v0, v1, .int x, v3, v4, v5, v6, v7, v8] [.int x] h Q := ex_nx (show mx_at 151 44 = some (.iload_n 2, 1) by decide +kernel) rfl
set_option maxRecDepth 20000 in
theorem i151_45 : ex_ X d 151 45 [v0, v1, v2, v3, v4, v5, v6, v7, v8] [.int x] h Q = if 0 ≤ x then ex_ X d 151 54 [v0, v1, v2, v3, v4, v5, v6, v7, v8] [] h Q else ex_ X d 151 48 [v0, v1, v2, v3, v4, v5, v6, v7, v8] [] h Q := (R_br (show mx_at 151 45 = some (.ifCond .ge 9, 3) by decide +kernel) rfl rfl).trans mx_ite
set_option maxRecDepth 20000 in
theorem i151_48 : ex_ X d 151 48 [v0, v1, v2, v3, v4, v5, v6, v7, v8] [] h Q = ex_ X d 151 51 [v0, v1, v2, v3, v4, v5, v6, v7, v8] [.int 900] h Q := R_sipush (show mx_at 151 48 = some (.sipush 900, 3) by decide +kernel) (by decide)
set_option maxRecDepth 20000 in
theorem i151_51 : ex_ X d 151 51 [v0, v1, v2, v3, v4, v5, v6, v7, v8] [w0] h Q = ex_ X d 151 57 [v0, v1, v2, v3, v4, v5, v6, v7, v8] [w0] h Q := R_to (show mx_at 151 51 = some (.goto 6, 3) by decide +kernel) rfl rfl
set_option maxRecDepth 20000 in
theorem i151_54 : ex_ X d 151 54 [v0, v1, .int x, v3, v4, v5, v6, v7, v8] [] h Q = ex_ X d 151 55 [v0, v1, .int x, v3, v4, v5, v6, v7, v8] [.int x] h Q := ex_nx (show mx_at 151 54 = some (.iload_n 2, 1) by decide +kernel) rfl
set_option maxRecDepth 20000 in
theorem i151_55 : ex_ X d 151 55 [v0, v1, v2, .int x, v4, v5, v6, v7, v8] [w0] h Q = ex_ X d 151 56 [v0, v1, v2, .int x, v4, v5, v6, v7, v8] [.int x, w0] h Q := ex_nx (show mx_at 151 55 = some (.iload_n 3, 1) by decide +kernel) rfl
set_option maxRecDepth 20000 in
theorem i151_56 : ex_ X d 151 56 [v0, v1, v2, v3, v4, v5, v6, v7, v8] [.int y, .int x] h Q = ex_ X d 151 57 [v0, v1, v2, v3, v4, v5, v6, v7, v8] [.int (x - y)] h Q := ex_nx (show mx_at 151 56 = some (.isub, 1) by decide +kernel) rfl
set_option maxRecDepth 20000 in
theorem i151_57 : ex_ X d 151 57 [v0, v1, v2, v3, v4, v5, v6, v7, v8] [.int x] h Q = (mx_nl v6 = true ∧ ex_ X d 151 59 [v0, v1, v2, v3, v4, v5, v6, .int x, v8] [] h Q) := mx_t1 (R_st (ok := mx_isI) (n := 7) (w := 2) (show mx_at 151 57 = some (.istore 7, 2) by decide +kernel) (fun _ _ => rfl) (Nat.le_of_ble_eq_true rfl)) rfl
set_option maxRecDepth 20000 in
theorem i151_59 : ex_ X d 151 59 [v0, v1, v2, v3, .int x, v5, v6, v7, v8] [] h Q = ex_ X d 151 61 [v0, v1, v2, v3, .int x, v5, v6, v7, v8] [.int x] h Q := ex_nx (show mx_at 151 59 = some (.iload 4, 2) by decide +kernel) rfl
set_option maxRecDepth 20000 in
theorem i151_61 : ex_ X d 151 61 [v0, v1, v2, v3, v4, v5, v6, v7, v8] [w0] h Q = ex_ X d 151 63 [v0, v1, v2, v3, v4, v5, v6, v7, v8] [.int 60, w0] h Q := R_bipush (show mx_at 151 61 = some (.bipush 60, 2) by decide +kernel) (by decide)
set_option maxRecDepth 20000 in
theorem i151_63 : ex_ X d 151 63 [v0, v1, v2, v3, v4, v5, v6, v7, v8] [.int y, .int x] h Q = if x < y then ex_ X d 151 73 [v0, v1, v2, v3, v4, v5, v6, v7, v8] [] h Q else ex_ X d 151 66 [v0, v1, v2, v3, v4, v5, v6, v7, v8] [] h Q := (R_br (show mx_at 151 63 = some (.if_icmp .lt 10, 3) by decide +kernel) rfl rfl).trans mx_ite
set_option maxRecDepth 20000 in
theorem i151_66 : ex_ X d 151 66 [v0, v1, v2, v3, v4, v5, .int x, v7, v8] [] h Q = ex_ X d 151 68 [v0, v1, v2, v3, v4, v5, .int x, v7, v8] [.int x] h Q := ex_nx (show mx_at 151 66 = some (.iload 6, 2) by decide +kernel) rfl
set_option maxRecDepth 20000 in
theorem i151_68 : ex_ X d 151 68 [v0, v1, v2, .int x, v4, v5, v6, v7, v8] [w0] h Q = ex_ X d 151 69 [v0, v1, v2, .int x, v4, v5, v6, v7, v8] [.int x, w0] h Q := ex_nx (show mx_at 151 68 = some (.iload_n 3, 1) by decide +kernel) rfl
set_option maxRecDepth 20000 in
theorem i151_69 : ex_ X d 151 69 [v0, v1, v2, v3, v4, v5, v6, v7, v8] [.int y, .int x] h Q = ex_ X d 151 70 [v0, v1, v2, v3, v4, v5, v6, v7, v8] [.int (x - y)] h Q := ex_nx (show mx_at 151 69 = some (.isub, 1) by decide +kernel) rfl
set_option maxRecDepth 20000 in
theorem i151_70 : ex_ X d 151 70 [v0, v1, v2, v3, v4, v5, v6, v7, v8] [w0] h Q = ex_ X d 151 75 [v0, v1, v2, v3, v4, v5, v6, v7, v8] [w0] h Q := R_to (show mx_at 151 70 = some (.goto 5, 3) by decide +kernel) rfl rfl
set_option maxRecDepth 20000 in
theorem i151_73 : ex_ X d 151 73 [v0, v1, v2, v3, v4, v5, .int x, v7, v8] [] h Q = ex_ X d 151 75 [v0, v1, v2, v3, v4, v5, .int x, v7, v8] [.int x] h Q := ex_nx (show mx_at 151 73 = some (.iload 6, 2) by decide +kernel) rfl
set_option maxRecDepth 20000 in
theorem i151_75 : ex_ X d 151 75 [v0, v1, v2, v3, v4, v5, v6, v7, v8] [.int x] h Q = (mx_nl v7 = true ∧ ex_ X d 151 77 [v0, v1, v2, v3, v4, v5, v6, v7, .int x] [] h Q) := mx_t1 (R_st (ok := mx_isI) (n := 8) (w := 2) (show mx_at 151 75 = some (.istore 8, 2) by decide +kernel) (fun _ _ => rfl) (Nat.le_of_ble_eq_true rfl)) rfl
set_option maxRecDepth 20000 in
theorem i151_77 : ex_ X d 151 77 [.ref a, v1, v2, v3, v4, v5, v6, v7, v8] [] h Q = ex_ X d 151 78 [.ref a, v1, v2, v3, v4, v5, v6, v7, v8] [.ref a] h Q := ex_nx (show mx_at 151 77 = some (.aload_n 0, 1) by decide +kernel) rfl
set_option maxRecDepth 20000 in
theorem i151_78 : ex_ X d 151 78 [v0, .int x, v2, v3, v4, v5, v6, v7, v8] [w0] h Q = ex_ X d 151 79 [v0, .int x, v2, v3, v4, v5, v6, v7, v8] [.int x, w0] h Q := ex_nx (show mx_at 151 78 = some (.iload_n 1, 1) by decide +kernel) rfl
set_option maxRecDepth 20000 in
theorem i151_79 : ex_ X d 151 79 [v0, v1, v2, v3, v4, v5, v6, v7, v8] [w0, w1] h Q = ex_ X d 151 80 [v0, v1, v2, v3, v4, v5, v6, v7, v8] [.int 0, w0, w1] h Q := R_iconst (show mx_at 151 79 = some (.iconst 0, 1) by decide +kernel) (by decide)
set_option maxRecDepth 20000 in
theorem i151_80 : ex_ X (d + 1) 151 80 [v0, v1, v2, v3, v4, v5, v6, v7, v8] [.int x2, .int x1, .ref a0] h Q = ev_ X d 129 [.ref a0, .int x1, .int x2] h (fun r h' => ex_ X (d + 1) 151 83 [v0, v1, v2, v3, v4, v5, v6, v7, v8] (r.toList ++ []) h' Q) := R_stat (show mx_at 151 80 = some (.invokestatic 154, 3) by decide +kernel) (mx_clk ow151 cc12_154) (Nat.le_of_ble_eq_true rfl) rfl rfl (Nat.le_of_ble_eq_true rfl) ml129 (Nat.le_of_ble_eq_true rfl)
set_option maxRecDepth 20000 in
theorem i151_83_1 : ex_ X d 151 83 [v0, v1, v2, v3, v4, v5, v6, v7, v8] [.int 1] h Q = ex_ X d 151 120 [v0, v1, v2, v3, v4, v5, v6, v7, v8] [] h Q := R_tsw (off := 37) (show mx_at 151 83 = some (.tableswitch 100 1 6 #[37, 40, 45, 66, 69, 84], 37) by decide +kernel) (by decide) rfl
set_option maxRecDepth 20000 in
theorem i151_83_2 : ex_ X d 151 83 [v0, v1, v2, v3, v4, v5, v6, v7, v8] [.int 2] h Q = ex_ X d 151 123 [v0, v1, v2, v3, v4, v5, v6, v7, v8] [] h Q := R_tsw (off := 40) (show mx_at 151 83 = some (.tableswitch 100 1 6 #[37, 40, 45, 66, 69, 84], 37) by decide +kernel) (by decide) rfl
set_option maxRecDepth 20000 in
theorem i151_83_3 : ex_ X d 151 83 [v0, v1, v2, v3, v4, v5, v6, v7, v8] [.int 3] h Q = ex_ X d 151 128 [v0, v1, v2, v3, v4, v5, v6, v7, v8] [] h Q := R_tsw (off := 45) (show mx_at 151 83 = some (.tableswitch 100 1 6 #[37, 40, 45, 66, 69, 84], 37) by decide +kernel) (by decide) rfl
set_option maxRecDepth 20000 in
theorem i151_83_4 : ex_ X d 151 83 [v0, v1, v2, v3, v4, v5, v6, v7, v8] [.int 4] h Q = ex_ X d 151 149 [v0, v1, v2, v3, v4, v5, v6, v7, v8] [] h Q := R_tsw (off := 66) (show mx_at 151 83 = some (.tableswitch 100 1 6 #[37, 40, 45, 66, 69, 84], 37) by decide +kernel) (by decide) rfl
set_option maxRecDepth 20000 in
theorem i151_83_5 : ex_ X d 151 83 [v0, v1, v2, v3, v4, v5, v6, v7, v8] [.int 5] h Q = ex_ X d 151 152 [v0, v1, v2, v3, v4, v5, v6, v7, v8] [] h Q := R_tsw (off := 69) (show mx_at 151 83 = some (.tableswitch 100 1 6 #[37, 40, 45, 66, 69, 84], 37) by decide +kernel) (by decide) rfl
set_option maxRecDepth 20000 in
theorem i151_83_6 : ex_ X d 151 83 [v0, v1, v2, v3, v4, v5, v6, v7, v8] [.int 6] h Q = ex_ X d 151 167 [v0, v1, v2, v3, v4, v5, v6, v7, v8] [] h Q := R_tsw (off := 84) (show mx_at 151 83 = some (.tableswitch 100 1 6 #[37, 40, 45, 66, 69, 84], 37) by decide +kernel) (by decide) rfl
set_option maxRecDepth 20000 in
theorem i151_83_d (hx : x.toInt < 1 ∨ 6 < x.toInt) : ex_ X d 151 83 [v0, v1, v2, v3, v4, v5, v6, v7, v8] [.int x] h Q = ex_ X d 151 183 [v0, v1, v2, v3, v4, v5, v6, v7, v8] [] h Q := R_tsw (off := 100) (show mx_at 151 83 = some (.tableswitch 100 1 6 #[37, 40, 45, 66, 69, 84], 37) by decide +kernel) (if_pos hx) rfl
set_option maxRecDepth 20000 in
theorem i151_120 : ex_ X d 151 120 [v0, v1, v2, v3, v4, v5, v6, .int x, v8] [] h Q = ex_ X d 151 122 [v0, v1, v2, v3, v4, v5, v6, .int x, v8] [.int x] h Q := ex_nx (show mx_at 151 120 = some (.iload 7, 2) by decide +kernel) rfl
set_option maxRecDepth 20000 in
theorem i151_122 : ex_ X d 151 122 [v0, v1, v2, v3, v4, v5, v6, v7, v8] [.int x] h Q = Q (some (.int x)) h := ex_ret (show mx_at 151 122 = some (.ireturn, 1) by decide +kernel) (mx_retI rt151)
set_option maxRecDepth 20000 in
theorem i151_123 : ex_ X d 151 123 [v0, v1, v2, v3, v4, v5, .int x, v7, v8] [] h Q = ex_ X d 151 125 [v0, v1, v2, v3, v4, v5, .int x, v7, v8] [.int x] h Q := ex_nx (show mx_at 151 123 = some (.iload 6, 2) by decide +kernel) rfl
set_option maxRecDepth 20000 in
theorem i151_125 : ex_ X d 151 125 [v0, v1, v2, .int x, v4, v5, v6, v7, v8] [w0] h Q = ex_ X d 151 126 [v0, v1, v2, .int x, v4, v5, v6, v7, v8] [.int x, w0] h Q := ex_nx (show mx_at 151 125 = some (.iload_n 3, 1) by decide +kernel) rfl
set_option maxRecDepth 20000 in
theorem i151_126 : ex_ X d 151 126 [v0, v1, v2, v3, v4, v5, v6, v7, v8] [.int y, .int x] h Q = ex_ X d 151 127 [v0, v1, v2, v3, v4, v5, v6, v7, v8] [.int (x - y)] h Q := ex_nx (show mx_at 151 126 = some (.isub, 1) by decide +kernel) rfl
set_option maxRecDepth 20000 in
theorem i151_127 : ex_ X d 151 127 [v0, v1, v2, v3, v4, v5, v6, v7, v8] [.int x] h Q = Q (some (.int x)) h := ex_ret (show mx_at 151 127 = some (.ireturn, 1) by decide +kernel) (mx_retI rt151)
set_option maxRecDepth 20000 in
theorem i151_128 : ex_ X d 151 128 [v0, v1, v2, v3, .int x, v5, v6, v7, v8] [] h Q = ex_ X d 151 130 [v0, v1, v2, v3, .int x, v5, v6, v7, v8] [.int x] h Q := ex_nx (show mx_at 151 128 = some (.iload 4, 2) by decide +kernel) rfl
set_option maxRecDepth 20000 in
theorem i151_130 : ex_ X d 151 130 [v0, v1, v2, v3, v4, v5, v6, v7, v8] [w0] h Q = ex_ X d 151 132 [v0, v1, v2, v3, v4, v5, v6, v7, v8] [.int 20, w0] h Q := R_bipush (show mx_at 151 130 = some (.bipush 20, 2) by decide +kernel) (by decide)
set_option maxRecDepth 20000 in
theorem i151_132 : ex_ X d 151 132 [v0, v1, v2, v3, v4, v5, v6, v7, v8] [.int y, .int x] h Q = if x < y then ex_ X d 151 144 [v0, v1, v2, v3, v4, v5, v6, v7, v8] [] h Q else ex_ X d 151 135 [v0, v1, v2, v3, v4, v5, v6, v7, v8] [] h Q := (R_br (show mx_at 151 132 = some (.if_icmp .lt 12, 3) by decide +kernel) rfl rfl).trans mx_ite
set_option maxRecDepth 20000 in
theorem i151_135 : ex_ X d 151 135 [v0, v1, v2, v3, v4, v5, .int x, v7, v8] [] h Q = ex_ X d 151 137 [v0, v1, v2, v3, v4, v5, .int x, v7, v8] [.int x] h Q := ex_nx (show mx_at 151 135 = some (.iload 6, 2) by decide +kernel) rfl
set_option maxRecDepth 20000 in
theorem i151_137 : ex_ X d 151 137 [v0, v1, v2, .int x, v4, v5, v6, v7, v8] [w0] h Q = ex_ X d 151 138 [v0, v1, v2, .int x, v4, v5, v6, v7, v8] [.int x, w0] h Q := ex_nx (show mx_at 151 137 = some (.iload_n 3, 1) by decide +kernel) rfl
set_option maxRecDepth 20000 in
theorem i151_138 : ex_ X d 151 138 [v0, v1, v2, v3, v4, v5, v6, v7, v8] [.int y, .int x] h Q = ex_ X d 151 139 [v0, v1, v2, v3, v4, v5, v6, v7, v8] [.int (x - y)] h Q := ex_nx (show mx_at 151 138 = some (.isub, 1) by decide +kernel) rfl
set_option maxRecDepth 20000 in
theorem i151_139 : ex_ X d 151 139 [v0, v1, v2, .int x, v4, v5, v6, v7, v8] [w0] h Q = ex_ X d 151 140 [v0, v1, v2, .int x, v4, v5, v6, v7, v8] [.int x, w0] h Q := ex_nx (show mx_at 151 139 = some (.iload_n 3, 1) by decide +kernel) rfl
set_option maxRecDepth 20000 in
theorem i151_140 : ex_ X d 151 140 [v0, v1, v2, v3, v4, v5, v6, v7, v8] [.int y, .int x] h Q = ex_ X d 151 141 [v0, v1, v2, v3, v4, v5, v6, v7, v8] [.int (x - y)] h Q := ex_nx (show mx_at 151 140 = some (.isub, 1) by decide +kernel) rfl
set_option maxRecDepth 20000 in
theorem i151_141 : ex_ X d 151 141 [v0, v1, v2, v3, v4, v5, v6, v7, v8] [w0] h Q = ex_ X d 151 148 [v0, v1, v2, v3, v4, v5, v6, v7, v8] [w0] h Q := R_to (show mx_at 151 141 = some (.goto 7, 3) by decide +kernel) rfl rfl
set_option maxRecDepth 20000 in
theorem i151_144 : ex_ X d 151 144 [v0, v1, v2, v3, v4, v5, .int x, v7, v8] [] h Q = ex_ X d 151 146 [v0, v1, v2, v3, v4, v5, .int x, v7, v8] [.int x] h Q := ex_nx (show mx_at 151 144 = some (.iload 6, 2) by decide +kernel) rfl
set_option maxRecDepth 20000 in
theorem i151_146 : ex_ X d 151 146 [v0, v1, v2, .int x, v4, v5, v6, v7, v8] [w0] h Q = ex_ X d 151 147 [v0, v1, v2, .int x, v4, v5, v6, v7, v8] [.int x, w0] h Q := ex_nx (show mx_at 151 146 = some (.iload_n 3, 1) by decide +kernel) rfl
set_option maxRecDepth 20000 in
theorem i151_147 : ex_ X d 151 147 [v0, v1, v2, v3, v4, v5, v6, v7, v8] [.int y, .int x] h Q = ex_ X d 151 148 [v0, v1, v2, v3, v4, v5, v6, v7, v8] [.int (x - y)] h Q := ex_nx (show mx_at 151 147 = some (.isub, 1) by decide +kernel) rfl
set_option maxRecDepth 20000 in
theorem i151_148 : ex_ X d 151 148 [v0, v1, v2, v3, v4, v5, v6, v7, v8] [.int x] h Q = Q (some (.int x)) h := ex_ret (show mx_at 151 148 = some (.ireturn, 1) by decide +kernel) (mx_retI rt151)
set_option maxRecDepth 20000 in
theorem i151_149 : ex_ X d 151 149 [v0, v1, v2, v3, v4, v5, v6, v7, .int x] [] h Q = ex_ X d 151 151 [v0, v1, v2, v3, v4, v5, v6, v7, .int x] [.int x] h Q := ex_nx (show mx_at 151 149 = some (.iload 8, 2) by decide +kernel) rfl
set_option maxRecDepth 20000 in
theorem i151_151 : ex_ X d 151 151 [v0, v1, v2, v3, v4, v5, v6, v7, v8] [.int x] h Q = Q (some (.int x)) h := ex_ret (show mx_at 151 151 = some (.ireturn, 1) by decide +kernel) (mx_retI rt151)
set_option maxRecDepth 20000 in
theorem i151_152 : ex_ X d 151 152 [v0, v1, v2, v3, v4, v5, v6, v7, .int x] [] h Q = ex_ X d 151 154 [v0, v1, v2, v3, v4, v5, v6, v7, .int x] [.int x] h Q := ex_nx (show mx_at 151 152 = some (.iload 8, 2) by decide +kernel) rfl
set_option maxRecDepth 20000 in
theorem i151_154 : ex_ X d 151 154 [v0, v1, v2, v3, v4, .int x, v6, v7, v8] [w0] h Q = ex_ X d 151 156 [v0, v1, v2, v3, v4, .int x, v6, v7, v8] [.int x, w0] h Q := ex_nx (show mx_at 151 154 = some (.iload 5, 2) by decide +kernel) rfl
set_option maxRecDepth 20000 in
theorem i151_156 : ex_ X d 151 156 [v0, v1, v2, v3, v4, v5, v6, v7, v8] [.int y, .int x] h Q = if y ≤ x then ex_ X d 151 164 [v0, v1, v2, v3, v4, v5, v6, v7, v8] [] h Q else ex_ X d 151 159 [v0, v1, v2, v3, v4, v5, v6, v7, v8] [] h Q := (R_br (show mx_at 151 156 = some (.if_icmp .ge 8, 3) by decide +kernel) rfl rfl).trans mx_ite
set_option maxRecDepth 20000 in
theorem i151_159 : ex_ X d 151 159 [v0, v1, v2, v3, v4, .int x, v6, v7, v8] [] h Q = ex_ X d 151 161 [v0, v1, v2, v3, v4, .int x, v6, v7, v8] [.int x] h Q := ex_nx (show mx_at 151 159 = some (.iload 5, 2) by decide +kernel) rfl
set_option maxRecDepth 20000 in
theorem i151_161 : ex_ X d 151 161 [v0, v1, v2, v3, v4, v5, v6, v7, v8] [w0] h Q = ex_ X d 151 166 [v0, v1, v2, v3, v4, v5, v6, v7, v8] [w0] h Q := R_to (show mx_at 151 161 = some (.goto 5, 3) by decide +kernel) rfl rfl
set_option maxRecDepth 20000 in
theorem i151_164 : ex_ X d 151 164 [v0, v1, v2, v3, v4, v5, v6, v7, .int x] [] h Q = ex_ X d 151 166 [v0, v1, v2, v3, v4, v5, v6, v7, .int x] [.int x] h Q := ex_nx (show mx_at 151 164 = some (.iload 8, 2) by decide +kernel) rfl
set_option maxRecDepth 20000 in
theorem i151_166 : ex_ X d 151 166 [v0, v1, v2, v3, v4, v5, v6, v7, v8] [.int x] h Q = Q (some (.int x)) h := ex_ret (show mx_at 151 166 = some (.ireturn, 1) by decide +kernel) (mx_retI rt151)
set_option maxRecDepth 20000 in
theorem i151_167 : ex_ X d 151 167 [v0, v1, v2, v3, v4, v5, v6, .int x, v8] [] h Q = ex_ X d 151 169 [v0, v1, v2, v3, v4, v5, v6, .int x, v8] [.int x] h Q := ex_nx (show mx_at 151 167 = some (.iload 7, 2) by decide +kernel) rfl
set_option maxRecDepth 20000 in
theorem i151_169 : ex_ X d 151 169 [v0, v1, v2, v3, v4, .int x, v6, v7, v8] [w0] h Q = ex_ X d 151 171 [v0, v1, v2, v3, v4, .int x, v6, v7, v8] [.int x, w0] h Q := ex_nx (show mx_at 151 169 = some (.iload 5, 2) by decide +kernel) rfl
set_option maxRecDepth 20000 in
theorem i151_171 : ex_ X d 151 171 [v0, v1, v2, v3, v4, v5, v6, v7, v8] [.int y, .int x] h Q = if y ≤ x then ex_ X d 151 180 [v0, v1, v2, v3, v4, v5, v6, v7, v8] [] h Q else ex_ X d 151 174 [v0, v1, v2, v3, v4, v5, v6, v7, v8] [] h Q := (R_br (show mx_at 151 171 = some (.if_icmp .ge 9, 3) by decide +kernel) rfl rfl).trans mx_ite
set_option maxRecDepth 20000 in
theorem i151_174 : ex_ X d 151 174 [v0, v1, v2, v3, v4, v5, v6, v7, v8] [] h Q = ex_ X d 151 177 [v0, v1, v2, v3, v4, v5, v6, v7, v8] [.int 900] h Q := R_sipush (show mx_at 151 174 = some (.sipush 900, 3) by decide +kernel) (by decide)
set_option maxRecDepth 20000 in
theorem i151_177 : ex_ X d 151 177 [v0, v1, v2, v3, v4, v5, v6, v7, v8] [w0] h Q = ex_ X d 151 182 [v0, v1, v2, v3, v4, v5, v6, v7, v8] [w0] h Q := R_to (show mx_at 151 177 = some (.goto 5, 3) by decide +kernel) rfl rfl
set_option maxRecDepth 20000 in
theorem i151_180 : ex_ X d 151 180 [v0, v1, v2, v3, v4, v5, v6, .int x, v8] [] h Q = ex_ X d 151 182 [v0, v1, v2, v3, v4, v5, v6, .int x, v8] [.int x] h Q := ex_nx (show mx_at 151 180 = some (.iload 7, 2) by decide +kernel) rfl
set_option maxRecDepth 20000 in
theorem i151_182 : ex_ X d 151 182 [v0, v1, v2, v3, v4, v5, v6, v7, v8] [.int x] h Q = Q (some (.int x)) h := ex_ret (show mx_at 151 182 = some (.ireturn, 1) by decide +kernel) (mx_retI rt151)
set_option maxRecDepth 20000 in
theorem i151_183 : ex_ X d 151 183 [v0, v1, v2, v3, v4, v5, .int x, v7, v8] [] h Q = ex_ X d 151 185 [v0, v1, v2, v3, v4, v5, .int x, v7, v8] [.int x] h Q := ex_nx (show mx_at 151 183 = some (.iload 6, 2) by decide +kernel) rfl
set_option maxRecDepth 20000 in
theorem i151_185 : ex_ X d 151 185 [v0, v1, v2, v3, v4, v5, v6, v7, v8] [.int x] h Q = Q (some (.int x)) h := ex_ret (show mx_at 151 185 = some (.ireturn, 1) by decide +kernel) (mx_retI rt151)
theorem i151_e : ev_ X d 151 [.ref a0, .int x1] h Q = ex_ X d 151 0 [.ref a0, .int x1, .double 0, .double 0, .double 0, .double 0, .double 0, .double 0, .double 0] [] h Q := by rw [ev_, ml151]; rfl
-- 152 X12_isAnew
set_option maxRecDepth 20000 in
theorem i152_0 : ex_ X d 152 0 [.ref a, v1, v2] [] h Q = ex_ X d 152 1 [.ref a, v1, v2] [.ref a] h Q := ex_nx (show mx_at 152 0 = some (.aload_n 0, 1) by decide +kernel) rfl
set_option maxRecDepth 20000 in
theorem i152_1 : ex_ X d 152 1 [v0, .int x, v2] [w0] h Q = ex_ X d 152 2 [v0, .int x, v2] [.int x, w0] h Q := ex_nx (show mx_at 152 1 = some (.iload_n 1, 1) by decide +kernel) rfl
set_option maxRecDepth 20000 in
theorem i152_2 : ex_ X d 152 2 [v0, v1, v2] [w0, w1] h Q = ex_ X d 152 4 [v0, v1, v2] [.int 6, w0, w1] h Q := R_bipush (show mx_at 152 2 = some (.bipush 6, 2) by decide +kernel) (by decide)
set_option maxRecDepth 20000 in
theorem i152_4 : ex_ X (d + 1) 152 4 [v0, v1, v2] [.int x2, .int x1, .ref a0] h Q = ev_ X d 129 [.ref a0, .int x1, .int x2] h (fun r h' => ex_ X (d + 1) 152 7 [v0, v1, v2] (r.toList ++ []) h' Q) := R_stat (show mx_at 152 4 = some (.invokestatic 154, 3) by decide +kernel) (mx_clk ow152 cc12_154) (Nat.le_of_ble_eq_true rfl) rfl rfl (Nat.le_of_ble_eq_true rfl) ml129 (Nat.le_of_ble_eq_true rfl)
set_option maxRecDepth 20000 in
theorem i152_7 : ex_ X d 152 7 [v0, v1, v2] [.int x] h Q = (mx_nl v1 = true ∧ ex_ X d 152 8 [v0, v1, .int x] [] h Q) := mx_t1 (R_st (ok := mx_isI) (n := 2) (w := 1) (show mx_at 152 7 = some (.istore_n 2, 1) by decide +kernel) (fun _ _ => rfl) (Nat.le_of_ble_eq_true rfl)) rfl
set_option maxRecDepth 20000 in
theorem i152_8 : ex_ X d 152 8 [.ref a, v1, v2] [] h Q = ex_ X d 152 9 [.ref a, v1, v2] [.ref a] h Q := ex_nx (show mx_at 152 8 = some (.aload_n 0, 1) by decide +kernel) rfl
set_option maxRecDepth 20000 in
theorem i152_9 : ex_ X d 152 9 [v0, .int x, v2] [w0] h Q = ex_ X d 152 10 [v0, .int x, v2] [.int x, w0] h Q := ex_nx (show mx_at 152 9 = some (.iload_n 1, 1) by decide +kernel) rfl
set_option maxRecDepth 20000 in
theorem i152_10 : ex_ X d 152 10 [v0, v1, v2] [w0, w1] h Q = ex_ X d 152 11 [v0, v1, v2] [.int 0, w0, w1] h Q := R_iconst (show mx_at 152 10 = some (.iconst 0, 1) by decide +kernel) (by decide)
set_option maxRecDepth 20000 in
theorem i152_11 : ex_ X (d + 1) 152 11 [v0, v1, v2] [.int x2, .int x1, .ref a0] h Q = ev_ X d 129 [.ref a0, .int x1, .int x2] h (fun r h' => ex_ X (d + 1) 152 14 [v0, v1, v2] (r.toList ++ []) h' Q) := R_stat (show mx_at 152 11 = some (.invokestatic 154, 3) by decide +kernel) (mx_clk ow152 cc12_154) (Nat.le_of_ble_eq_true rfl) rfl rfl (Nat.le_of_ble_eq_true rfl) ml129 (Nat.le_of_ble_eq_true rfl)
set_option maxRecDepth 20000 in
theorem i152_14 : ex_ X d 152 14 [v0, v1, v2] [w0] h Q = ex_ X d 152 16 [v0, v1, v2] [.int 6, w0] h Q := R_bipush (show mx_at 152 14 = some (.bipush 6, 2) by decide +kernel) (by decide)
set_option maxRecDepth 20000 in
theorem i152_16 : ex_ X d 152 16 [v0, v1, v2] [.int y, .int x] h Q = if ¬ x = y then ex_ X d 152 50 [v0, v1, v2] [] h Q else ex_ X d 152 19 [v0, v1, v2] [] h Q := (R_br (show mx_at 152 16 = some (.if_icmp .ne 34, 3) by decide +kernel) rfl rfl).trans mx_ite
set_option maxRecDepth 20000 in
theorem i152_19 : ex_ X d 152 19 [v0, v1, .int x] [] h Q = ex_ X d 152 20 [v0, v1, .int x] [.int x] h Q := ex_nx (show mx_at 152 19 = some (.iload_n 2, 1) by decide +kernel) rfl
set_option maxRecDepth 20000 in
theorem i152_20 : ex_ X d 152 20 [v0, v1, v2] [.int x] h Q = if 0 ≤ x then ex_ X d 152 29 [v0, v1, v2] [] h Q else ex_ X d 152 23 [v0, v1, v2] [] h Q := (R_br (show mx_at 152 20 = some (.ifCond .ge 9, 3) by decide +kernel) rfl rfl).trans mx_ite
set_option maxRecDepth 20000 in
theorem i152_23 : ex_ X d 152 23 [v0, v1, v2] [] h Q = ex_ X d 152 26 [v0, v1, v2] [.int 900] h Q := R_sipush (show mx_at 152 23 = some (.sipush 900, 3) by decide +kernel) (by decide)
set_option maxRecDepth 20000 in
theorem i152_26 : ex_ X d 152 26 [v0, v1, v2] [w0] h Q = ex_ X d 152 37 [v0, v1, v2] [w0] h Q := R_to (show mx_at 152 26 = some (.goto 11, 3) by decide +kernel) rfl rfl
set_option maxRecDepth 20000 in
theorem i152_29 : ex_ X d 152 29 [v0, v1, .int x] [] h Q = ex_ X d 152 30 [v0, v1, .int x] [.int x] h Q := ex_nx (show mx_at 152 29 = some (.iload_n 2, 1) by decide +kernel) rfl
set_option maxRecDepth 20000 in
theorem i152_30 : ex_ X d 152 30 [.ref a, v1, v2] [w0] h Q = ex_ X d 152 31 [.ref a, v1, v2] [.ref a, w0] h Q := ex_nx (show mx_at 152 30 = some (.aload_n 0, 1) by decide +kernel) rfl
set_option maxRecDepth 20000 in
theorem i152_31 : ex_ X d 152 31 [v0, .int x, v2] [w0, w1] h Q = ex_ X d 152 32 [v0, .int x, v2] [.int x, w0, w1] h Q := ex_nx (show mx_at 152 31 = some (.iload_n 1, 1) by decide +kernel) rfl
set_option maxRecDepth 20000 in
theorem i152_32 : ex_ X d 152 32 [v0, v1, v2] [w0, w1, w2] h Q = ex_ X d 152 33 [v0, v1, v2] [.int 1, w0, w1, w2] h Q := R_iconst (show mx_at 152 32 = some (.iconst 1, 1) by decide +kernel) (by decide)
set_option maxRecDepth 20000 in
theorem i152_33 : ex_ X (d + 1) 152 33 [v0, v1, v2] [.int x2, .int x1, .ref a0, w0] h Q = ev_ X d 129 [.ref a0, .int x1, .int x2] h (fun r h' => ex_ X (d + 1) 152 36 [v0, v1, v2] (r.toList ++ [w0]) h' Q) := R_stat (show mx_at 152 33 = some (.invokestatic 154, 3) by decide +kernel) (mx_clk ow152 cc12_154) (Nat.le_of_ble_eq_true rfl) rfl rfl (Nat.le_of_ble_eq_true rfl) ml129 (Nat.le_of_ble_eq_true rfl)
set_option maxRecDepth 20000 in
theorem i152_36 : ex_ X d 152 36 [v0, v1, v2] [.int y, .int x] h Q = ex_ X d 152 37 [v0, v1, v2] [.int (x - y)] h Q := ex_nx (show mx_at 152 36 = some (.isub, 1) by decide +kernel) rfl
set_option maxRecDepth 20000 in
theorem i152_37 : ex_ X d 152 37 [.ref a, v1, v2] [w0] h Q = ex_ X d 152 38 [.ref a, v1, v2] [.ref a, w0] h Q := ex_nx (show mx_at 152 37 = some (.aload_n 0, 1) by decide +kernel) rfl
set_option maxRecDepth 20000 in
theorem i152_38 : ex_ X d 152 38 [v0, .int x, v2] [w0, w1] h Q = ex_ X d 152 39 [v0, .int x, v2] [.int x, w0, w1] h Q := ex_nx (show mx_at 152 38 = some (.iload_n 1, 1) by decide +kernel) rfl
set_option maxRecDepth 20000 in
theorem i152_39 : ex_ X d 152 39 [v0, v1, v2] [w0, w1, w2] h Q = ex_ X d 152 40 [v0, v1, v2] [.int 2, w0, w1, w2] h Q := R_iconst (show mx_at 152 39 = some (.iconst 2, 1) by decide +kernel) (by decide)
set_option maxRecDepth 20000 in
theorem i152_40 : ex_ X (d + 1) 152 40 [v0, v1, v2] [.int x2, .int x1, .ref a0, w0] h Q = ev_ X d 129 [.ref a0, .int x1, .int x2] h (fun r h' => ex_ X (d + 1) 152 43 [v0, v1, v2] (r.toList ++ [w0]) h' Q) := R_stat (show mx_at 152 40 = some (.invokestatic 154, 3) by decide +kernel) (mx_clk ow152 cc12_154) (Nat.le_of_ble_eq_true rfl) rfl rfl (Nat.le_of_ble_eq_true rfl) ml129 (Nat.le_of_ble_eq_true rfl)
set_option maxRecDepth 20000 in
theorem i152_43 : ex_ X d 152 43 [v0, v1, v2] [.int y, .int x] h Q = if y ≤ x then ex_ X d 152 50 [v0, v1, v2] [] h Q else ex_ X d 152 46 [v0, v1, v2] [] h Q := (R_br (show mx_at 152 43 = some (.if_icmp .ge 7, 3) by decide +kernel) rfl rfl).trans mx_ite
set_option maxRecDepth 20000 in
theorem i152_46 : ex_ X d 152 46 [v0, v1, v2] [] h Q = ex_ X d 152 47 [v0, v1, v2] [.int 1] h Q := R_iconst (show mx_at 152 46 = some (.iconst 1, 1) by decide +kernel) (by decide)
set_option maxRecDepth 20000 in
theorem i152_47 : ex_ X d 152 47 [v0, v1, v2] [w0] h Q = ex_ X d 152 51 [v0, v1, v2] [w0] h Q := R_to (show mx_at 152 47 = some (.goto 4, 3) by decide +kernel) rfl rfl
set_option maxRecDepth 20000 in
theorem i152_50 : ex_ X d 152 50 [v0, v1, v2] [] h Q = ex_ X d 152 51 [v0, v1, v2] [.int 0] h Q := R_iconst (show mx_at 152 50 = some (.iconst 0, 1) by decide +kernel) (by decide)
set_option maxRecDepth 20000 in
theorem i152_51 (hx : x = 0 ∨ x = 1) : ex_ X d 152 51 [v0, v1, v2] [.int x] h Q = Q (some (.int x)) h := ex_ret (show mx_at 152 51 = some (.ireturn, 1) by decide +kernel) (mx_retZ hx rt152)
theorem i152_e : ev_ X d 152 [.ref a0, .int x1] h Q = ex_ X d 152 0 [.ref a0, .int x1, .double 0] [] h Q := by rw [ev_, ml152]; rfl
-- 153 X12_mayAsk
set_option maxRecDepth 20000 in
theorem i153_0 : ex_ X d 153 0 [v0, .ref a, v2, v3, v4] [] h Q = ex_ X d 153 1 [v0, .ref a, v2, v3, v4] [.ref a] h Q := ex_nx (show mx_at 153 0 = some (.aload_n 1, 1) by decide +kernel) rfl
set_option maxRecDepth 20000 in
theorem i153_1 : ex_ X d 153 1 [v0, v1, .int x, v3, v4] [w0] h Q = ex_ X d 153 2 [v0, v1, .int x, v3, v4] [.int x, w0] h Q := ex_nx (show mx_at 153 1 = some (.iload_n 2, 1) by decide +kernel) rfl
set_option maxRecDepth 20000 in
theorem i153_2 : ex_ X d 153 2 [v0, v1, v2, v3, v4] [w0, w1] h Q = ex_ X d 153 4 [v0, v1, v2, v3, v4] [.int 6, w0, w1] h Q := R_bipush (show mx_at 153 2 = some (.bipush 6, 2) by decide +kernel) (by decide)
set_option maxRecDepth 20000 in
theorem i153_4 : ex_ X (d + 1) 153 4 [v0, v1, v2, v3, v4] [.int x2, .int x1, .ref a0] h Q = ev_ X d 129 [.ref a0, .int x1, .int x2] h (fun r h' => ex_ X (d + 1) 153 7 [v0, v1, v2, v3, v4] (r.toList ++ []) h' Q) := R_stat (show mx_at 153 4 = some (.invokestatic 154, 3) by decide +kernel) (mx_clk ow153 cc12_154) (Nat.le_of_ble_eq_true rfl) rfl rfl (Nat.le_of_ble_eq_true rfl) ml129 (Nat.le_of_ble_eq_true rfl)
set_option maxRecDepth 20000 in
theorem i153_7 : ex_ X d 153 7 [v0, v1, v2, v3, v4] [.int x] h Q = (mx_nl v3 = true ∧ ex_ X d 153 9 [v0, v1, v2, v3, .int x] [] h Q) := mx_t1 (R_st (ok := mx_isI) (n := 4) (w := 2) (show mx_at 153 7 = some (.istore 4, 2) by decide +kernel) (fun _ _ => rfl) (Nat.le_of_ble_eq_true rfl)) rfl
set_option maxRecDepth 20000 in
theorem i153_9 : ex_ X d 153 9 [v0, .ref a, v2, v3, v4] [] h Q = ex_ X d 153 10 [v0, .ref a, v2, v3, v4] [.ref a] h Q := ex_nx (show mx_at 153 9 = some (.aload_n 1, 1) by decide +kernel) rfl
set_option maxRecDepth 20000 in
theorem i153_10 : ex_ X d 153 10 [v0, v1, v2, v3, v4] [w0] h Q = ex_ X d 153 12 [v0, v1, v2, v3, v4] [.int 11, w0] h Q := R_bipush (show mx_at 153 10 = some (.bipush 11, 2) by decide +kernel) (by decide)
set_option maxRecDepth 20000 in
theorem i153_12 : ex_ X d 153 12 [v0, v1, v2, v3, v4] [.int i, .ref a] h Q = (ik_ h a i = true ∧ ex_ X d 153 13 [v0, v1, v2, v3, v4] [.int (ia_ h a i)] h Q) := R_iald (show mx_at 153 12 = some (.iaload, 1) by decide +kernel)
set_option maxRecDepth 20000 in
theorem i153_13 : ex_ X d 153 13 [v0, v1, v2, v3, v4] [w0] h Q = ex_ X d 153 14 [v0, v1, v2, v3, v4] [.int 1, w0] h Q := R_iconst (show mx_at 153 13 = some (.iconst 1, 1) by decide +kernel) (by decide)
set_option maxRecDepth 20000 in
theorem i153_14 : ex_ X d 153 14 [v0, v1, v2, v3, v4] [.int y, .int x] h Q = if x = y then ex_ X d 153 40 [v0, v1, v2, v3, v4] [] h Q else ex_ X d 153 17 [v0, v1, v2, v3, v4] [] h Q := (R_br (show mx_at 153 14 = some (.if_icmp .eq 26, 3) by decide +kernel) rfl rfl).trans mx_ite
set_option maxRecDepth 20000 in
theorem i153_17 : ex_ X d 153 17 [v0, v1, v2, v3, .int x] [] h Q = ex_ X d 153 19 [v0, v1, v2, v3, .int x] [.int x] h Q := ex_nx (show mx_at 153 17 = some (.iload 4, 2) by decide +kernel) rfl
set_option maxRecDepth 20000 in
theorem i153_19 : ex_ X d 153 19 [v0, v1, v2, v3, v4] [.int x] h Q = if x < 0 then ex_ X d 153 40 [v0, v1, v2, v3, v4] [] h Q else ex_ X d 153 22 [v0, v1, v2, v3, v4] [] h Q := (R_br (show mx_at 153 19 = some (.ifCond .lt 21, 3) by decide +kernel) rfl rfl).trans mx_ite
set_option maxRecDepth 20000 in
theorem i153_22 : ex_ X d 153 22 [.ref a, v1, v2, v3, v4] [] h Q = ex_ X d 153 23 [.ref a, v1, v2, v3, v4] [.ref a] h Q := ex_nx (show mx_at 153 22 = some (.aload_n 0, 1) by decide +kernel) rfl
set_option maxRecDepth 20000 in
theorem i153_23 : ex_ X d 153 23 [v0, v1, v2, v3, v4] [w0] h Q = ex_ X d 153 24 [v0, v1, v2, v3, v4] [.int 0, w0] h Q := R_iconst (show mx_at 153 23 = some (.iconst 0, 1) by decide +kernel) (by decide)
set_option maxRecDepth 20000 in
theorem i153_24 : ex_ X d 153 24 [v0, v1, v2, .int x, v4] [w0, w1] h Q = ex_ X d 153 25 [v0, v1, v2, .int x, v4] [.int x, w0, w1] h Q := ex_nx (show mx_at 153 24 = some (.iload_n 3, 1) by decide +kernel) rfl
set_option maxRecDepth 20000 in
theorem i153_25 : ex_ X d 153 25 [v0, v1, v2, v3, .int x] [w0, w1, w2] h Q = ex_ X d 153 27 [v0, v1, v2, v3, .int x] [.int x, w0, w1, w2] h Q := ex_nx (show mx_at 153 25 = some (.iload 4, 2) by decide +kernel) rfl
set_option maxRecDepth 20000 in
theorem i153_27 : ex_ X d 153 27 [v0, .ref a, v2, v3, v4] [w0, w1, w2, w3] h Q = ex_ X d 153 28 [v0, .ref a, v2, v3, v4] [.ref a, w0, w1, w2, w3] h Q := ex_nx (show mx_at 153 27 = some (.aload_n 1, 1) by decide +kernel) rfl
set_option maxRecDepth 20000 in
theorem i153_28 : ex_ X d 153 28 [v0, v1, v2, v3, v4] [w0, w1, w2, w3, w4] h Q = ex_ X d 153 29 [v0, v1, v2, v3, v4] [.int 0, w0, w1, w2, w3, w4] h Q := R_iconst (show mx_at 153 28 = some (.iconst 0, 1) by decide +kernel) (by decide)
set_option maxRecDepth 20000 in
theorem i153_29 : ex_ X d 153 29 [v0, v1, v2, v3, v4] [.int i, .ref a, w0, w1, w2, w3] h Q = (ik_ h a i = true ∧ ex_ X d 153 30 [v0, v1, v2, v3, v4] [.int (ia_ h a i), w0, w1, w2, w3] h Q) := R_iald (show mx_at 153 29 = some (.iaload, 1) by decide +kernel)
set_option maxRecDepth 20000 in
theorem i153_30 : ex_ X d 153 30 [v0, .ref a, v2, v3, v4] [w0, w1, w2, w3, w4] h Q = ex_ X d 153 31 [v0, .ref a, v2, v3, v4] [.ref a, w0, w1, w2, w3, w4] h Q := ex_nx (show mx_at 153 30 = some (.aload_n 1, 1) by decide +kernel) rfl
set_option maxRecDepth 20000 in
theorem i153_31 : ex_ X d 153 31 [v0, v1, v2, v3, v4] [w0, w1, w2, w3, w4, w5] h Q = ex_ X d 153 33 [v0, v1, v2, v3, v4] [.int 7, w0, w1, w2, w3, w4, w5] h Q := R_bipush (show mx_at 153 31 = some (.bipush 7, 2) by decide +kernel) (by decide)
set_option maxRecDepth 20000 in
theorem i153_33 : ex_ X d 153 33 [v0, v1, v2, v3, v4] [.int i, .ref a, w0, w1, w2, w3, w4] h Q = (ik_ h a i = true ∧ ex_ X d 153 34 [v0, v1, v2, v3, v4] [.int (ia_ h a i), w0, w1, w2, w3, w4] h Q) := R_iald (show mx_at 153 33 = some (.iaload, 1) by decide +kernel)
set_option maxRecDepth 20000 in
theorem i153_34 (hc : co_ h a = some 12) : ex_ X (d + 1) 153 34 [v0, v1, v2, v3, v4] [.int x4, .int x3, .int x2, .int x1, .int x0, .ref a] h Q = ev_ X d 148 [.ref a, .int x0, .int x1, .int x2, .int x3, .int x4] h (fun r h' => ex_ X (d + 1) 153 37 [v0, v1, v2, v3, v4] (r.toList ++ []) h' Q) := R_vir (show mx_at 153 34 = some (.invokevirtual 144, 3) by decide +kernel) (mx_clk ow153 cc12_144) (Nat.le_of_ble_eq_true rfl) rfl rfl hc rfl (Nat.le_of_ble_eq_true rfl) (Nat.le_of_ble_eq_true rfl) (by rw [ml148]; exact Nat.le_of_ble_eq_true rfl)
set_option maxRecDepth 20000 in
theorem i153_37 : ex_ X d 153 37 [v0, v1, v2, v3, v4] [.int x] h Q = if x = 0 then ex_ X d 153 44 [v0, v1, v2, v3, v4] [] h Q else ex_ X d 153 40 [v0, v1, v2, v3, v4] [] h Q := (R_br (show mx_at 153 37 = some (.ifCond .eq 7, 3) by decide +kernel) rfl rfl).trans mx_ite
set_option maxRecDepth 20000 in
theorem i153_40 : ex_ X d 153 40 [v0, v1, v2, v3, v4] [] h Q = ex_ X d 153 41 [v0, v1, v2, v3, v4] [.int 1] h Q := R_iconst (show mx_at 153 40 = some (.iconst 1, 1) by decide +kernel) (by decide)
set_option maxRecDepth 20000 in
theorem i153_41 : ex_ X d 153 41 [v0, v1, v2, v3, v4] [w0] h Q = ex_ X d 153 45 [v0, v1, v2, v3, v4] [w0] h Q := R_to (show mx_at 153 41 = some (.goto 4, 3) by decide +kernel) rfl rfl
set_option maxRecDepth 20000 in
theorem i153_44 : ex_ X d 153 44 [v0, v1, v2, v3, v4] [] h Q = ex_ X d 153 45 [v0, v1, v2, v3, v4] [.int 0] h Q := R_iconst (show mx_at 153 44 = some (.iconst 0, 1) by decide +kernel) (by decide)
set_option maxRecDepth 20000 in
theorem i153_45 (hx : x = 0 ∨ x = 1) : ex_ X d 153 45 [v0, v1, v2, v3, v4] [.int x] h Q = Q (some (.int x)) h := ex_ret (show mx_at 153 45 = some (.ireturn, 1) by decide +kernel) (mx_retZ hx rt153)
theorem i153_e : ev_ X d 153 [.ref a, .ref a0, .int x1, .int x2] h Q = ex_ X d 153 0 [.ref a, .ref a0, .int x1, .int x2, .double 0] [] h Q := by rw [ev_, ml153]; rfl
-- 154 X12_asks
set_option maxRecDepth 20000 in
theorem i154_0 : ex_ X d 154 0 [v0, .ref a, v2, v3] [] h Q = ex_ X d 154 1 [v0, .ref a, v2, v3] [.ref a] h Q := ex_nx (show mx_at 154 0 = some (.aload_n 1, 1) by decide +kernel) rfl
set_option maxRecDepth 20000 in
theorem i154_1 : ex_ X d 154 1 [v0, v1, .int x, v3] [w0] h Q = ex_ X d 154 2 [v0, v1, .int x, v3] [.int x, w0] h Q := ex_nx (show mx_at 154 1 = some (.iload_n 2, 1) by decide +kernel) rfl
set_option maxRecDepth 20000 in
theorem i154_2 : ex_ X (d + 1) 154 2 [v0, v1, v2, v3] [.int x1, .ref a0] h Q = ev_ X d 151 [.ref a0, .int x1] h (fun r h' => ex_ X (d + 1) 154 5 [v0, v1, v2, v3] (r.toList ++ []) h' Q) := R_stat (show mx_at 154 2 = some (.invokestatic 158, 3) by decide +kernel) (mx_clk ow154 cc12_158) (Nat.le_of_ble_eq_true rfl) rfl rfl (Nat.le_of_ble_eq_true rfl) ml151 (Nat.le_of_ble_eq_true rfl)
set_option maxRecDepth 20000 in
theorem i154_5 : ex_ X d 154 5 [v0, v1, v2, v3] [w0] h Q = ex_ X d 154 6 [v0, v1, v2, v3] [.int 0, w0] h Q := R_iconst (show mx_at 154 5 = some (.iconst 0, 1) by decide +kernel) (by decide)
set_option maxRecDepth 20000 in
theorem i154_6 : ex_ X d 154 6 [v0, v1, v2, v3] [w0, w1] h Q = ex_ X d 154 9 [v0, v1, v2, v3] [.int 999, w0, w1] h Q := R_sipush (show mx_at 154 6 = some (.sipush 999, 3) by decide +kernel) (by decide)
set_option maxRecDepth 20000 in
theorem i154_9 : ex_ X (d + 1) 154 9 [v0, v1, v2, v3] [.int x2, .int x1, .int x0] h Q = ev_ X d 125 [.int x0, .int x1, .int x2] h (fun r h' => ex_ X (d + 1) 154 12 [v0, v1, v2, v3] (r.toList ++ []) h' Q) := R_stat (show mx_at 154 9 = some (.invokestatic 162, 3) by decide +kernel) (mx_clk ow154 cc12_162) (Nat.le_of_ble_eq_true rfl) rfl rfl (Nat.le_of_ble_eq_true rfl) ml125 (Nat.le_of_ble_eq_true rfl)
set_option maxRecDepth 20000 in
theorem i154_12 : ex_ X d 154 12 [v0, v1, v2, v3] [.int x] h Q = (mx_nl v2 = true ∧ ex_ X d 154 13 [v0, v1, v2, .int x] [] h Q) := mx_t1 (R_st (ok := mx_isI) (n := 3) (w := 1) (show mx_at 154 12 = some (.istore_n 3, 1) by decide +kernel) (fun _ _ => rfl) (Nat.le_of_ble_eq_true rfl)) rfl
set_option maxRecDepth 20000 in
theorem i154_13 : ex_ X d 154 13 [v0, .ref a, v2, v3] [] h Q = ex_ X d 154 14 [v0, .ref a, v2, v3] [.ref a] h Q := ex_nx (show mx_at 154 13 = some (.aload_n 1, 1) by decide +kernel) rfl
set_option maxRecDepth 20000 in
theorem i154_14 : ex_ X d 154 14 [v0, v1, .int x, v3] [w0] h Q = ex_ X d 154 15 [v0, v1, .int x, v3] [.int x, w0] h Q := ex_nx (show mx_at 154 14 = some (.iload_n 2, 1) by decide +kernel) rfl
set_option maxRecDepth 20000 in
theorem i154_15 : ex_ X (d + 1) 154 15 [v0, v1, v2, v3] [.int x1, .ref a0] h Q = ev_ X d 152 [.ref a0, .int x1] h (fun r h' => ex_ X (d + 1) 154 18 [v0, v1, v2, v3] (r.toList ++ []) h' Q) := R_stat (show mx_at 154 15 = some (.invokestatic 165, 3) by decide +kernel) (mx_clk ow154 cc12_165) (Nat.le_of_ble_eq_true rfl) rfl rfl (Nat.le_of_ble_eq_true rfl) ml152 (Nat.le_of_ble_eq_true rfl)
set_option maxRecDepth 20000 in
theorem i154_18 : ex_ X d 154 18 [v0, v1, v2, v3] [.int x] h Q = if ¬ x = 0 then ex_ X d 154 31 [v0, v1, v2, v3] [] h Q else ex_ X d 154 21 [v0, v1, v2, v3] [] h Q := (R_br (show mx_at 154 18 = some (.ifCond .ne 13, 3) by decide +kernel) rfl rfl).trans mx_ite
set_option maxRecDepth 20000 in
theorem i154_21 : ex_ X d 154 21 [.ref a, v1, v2, v3] [] h Q = ex_ X d 154 22 [.ref a, v1, v2, v3] [.ref a] h Q := ex_nx (show mx_at 154 21 = some (.aload_n 0, 1) by decide +kernel) rfl
set_option maxRecDepth 20000 in
theorem i154_22 : ex_ X d 154 22 [v0, .ref a, v2, v3] [w0] h Q = ex_ X d 154 23 [v0, .ref a, v2, v3] [.ref a, w0] h Q := ex_nx (show mx_at 154 22 = some (.aload_n 1, 1) by decide +kernel) rfl
set_option maxRecDepth 20000 in
theorem i154_23 : ex_ X d 154 23 [v0, v1, .int x, v3] [w0, w1] h Q = ex_ X d 154 24 [v0, v1, .int x, v3] [.int x, w0, w1] h Q := ex_nx (show mx_at 154 23 = some (.iload_n 2, 1) by decide +kernel) rfl
set_option maxRecDepth 20000 in
theorem i154_24 : ex_ X d 154 24 [v0, v1, v2, .int x] [w0, w1, w2] h Q = ex_ X d 154 25 [v0, v1, v2, .int x] [.int x, w0, w1, w2] h Q := ex_nx (show mx_at 154 24 = some (.iload_n 3, 1) by decide +kernel) rfl
set_option maxRecDepth 20000 in
theorem i154_25 (hc : co_ h a = some 12) : ex_ X (d + 1) 154 25 [v0, v1, v2, v3] [.int x2, .int x1, .ref a0, .ref a] h Q = ev_ X d 153 [.ref a, .ref a0, .int x1, .int x2] h (fun r h' => ex_ X (d + 1) 154 28 [v0, v1, v2, v3] (r.toList ++ []) h' Q) := R_vir (show mx_at 154 25 = some (.invokevirtual 169, 3) by decide +kernel) (mx_clk ow154 cc12_169) (Nat.le_of_ble_eq_true rfl) rfl rfl hc rfl (Nat.le_of_ble_eq_true rfl) (Nat.le_of_ble_eq_true rfl) (by rw [ml153]; exact Nat.le_of_ble_eq_true rfl)
set_option maxRecDepth 20000 in
theorem i154_28 : ex_ X d 154 28 [v0, v1, v2, v3] [.int x] h Q = if x = 0 then ex_ X d 154 35 [v0, v1, v2, v3] [] h Q else ex_ X d 154 31 [v0, v1, v2, v3] [] h Q := (R_br (show mx_at 154 28 = some (.ifCond .eq 7, 3) by decide +kernel) rfl rfl).trans mx_ite
set_option maxRecDepth 20000 in
theorem i154_31 : ex_ X d 154 31 [v0, v1, v2, .int x] [] h Q = ex_ X d 154 32 [v0, v1, v2, .int x] [.int x] h Q := ex_nx (show mx_at 154 31 = some (.iload_n 3, 1) by decide +kernel) rfl
set_option maxRecDepth 20000 in
theorem i154_32 : ex_ X d 154 32 [v0, v1, v2, v3] [w0] h Q = ex_ X d 154 42 [v0, v1, v2, v3] [w0] h Q := R_to (show mx_at 154 32 = some (.goto 10, 3) by decide +kernel) rfl rfl
set_option maxRecDepth 20000 in
theorem i154_35 : ex_ X d 154 35 [v0, .ref a, v2, v3] [] h Q = ex_ X d 154 36 [v0, .ref a, v2, v3] [.ref a] h Q := ex_nx (show mx_at 154 35 = some (.aload_n 1, 1) by decide +kernel) rfl
set_option maxRecDepth 20000 in
theorem i154_36 : ex_ X d 154 36 [v0, v1, .int x, v3] [w0] h Q = ex_ X d 154 37 [v0, v1, .int x, v3] [.int x, w0] h Q := ex_nx (show mx_at 154 36 = some (.iload_n 2, 1) by decide +kernel) rfl
set_option maxRecDepth 20000 in
theorem i154_37 : ex_ X d 154 37 [v0, v1, v2, v3] [w0, w1] h Q = ex_ X d 154 39 [v0, v1, v2, v3] [.int 6, w0, w1] h Q := R_bipush (show mx_at 154 37 = some (.bipush 6, 2) by decide +kernel) (by decide)
set_option maxRecDepth 20000 in
theorem i154_39 : ex_ X (d + 1) 154 39 [v0, v1, v2, v3] [.int x2, .int x1, .ref a0] h Q = ev_ X d 129 [.ref a0, .int x1, .int x2] h (fun r h' => ex_ X (d + 1) 154 42 [v0, v1, v2, v3] (r.toList ++ []) h' Q) := R_stat (show mx_at 154 39 = some (.invokestatic 154, 3) by decide +kernel) (mx_clk ow154 cc12_154) (Nat.le_of_ble_eq_true rfl) rfl rfl (Nat.le_of_ble_eq_true rfl) ml129 (Nat.le_of_ble_eq_true rfl)
set_option maxRecDepth 20000 in
theorem i154_42 : ex_ X d 154 42 [v0, v1, v2, v3] [.int x] h Q = Q (some (.int x)) h := ex_ret (show mx_at 154 42 = some (.ireturn, 1) by decide +kernel) (mx_retI rt154)
theorem i154_e : ev_ X d 154 [.ref a, .ref a0, .int x1] h Q = ex_ X d 154 0 [.ref a, .ref a0, .int x1, .double 0] [] h Q := by rw [ev_, ml154]; rfl
-- 155 X12_ofSeller
set_option maxRecDepth 20000 in
theorem i155_0 : ex_ X d 155 0 [.ref a, v1, v2] [] h Q = ex_ X d 155 1 [.ref a, v1, v2] [.ref a] h Q := ex_nx (show mx_at 155 0 = some (.aload_n 0, 1) by decide +kernel) rfl
set_option maxRecDepth 20000 in
theorem i155_1 : ex_ X d 155 1 [v0, .int x, v2] [w0] h Q = ex_ X d 155 2 [v0, .int x, v2] [.int x, w0] h Q := ex_nx (show mx_at 155 1 = some (.iload_n 1, 1) by decide +kernel) rfl
set_option maxRecDepth 20000 in
theorem i155_2 (hc : co_ h a = some 12) : ex_ X (d + 1) 155 2 [v0, v1, v2] [.int x0, .ref a] h Q = ev_ X d 127 [.ref a, .int x0] h (fun r h' => ex_ X (d + 1) 155 5 [v0, v1, v2] (r.toList ++ []) h' Q) := R_vir (show mx_at 155 2 = some (.invokevirtual 173, 3) by decide +kernel) (mx_clk ow155 cc12_173) (Nat.le_of_ble_eq_true rfl) rfl rfl hc rfl (Nat.le_of_ble_eq_true rfl) (Nat.le_of_ble_eq_true rfl) (by rw [ml127]; exact Nat.le_of_ble_eq_true rfl)
set_option maxRecDepth 20000 in
theorem i155_5 : ex_ X d 155 5 [v0, v1, v2] [.int x] h Q = if x = 0 then ex_ X d 155 20 [v0, v1, v2] [] h Q else ex_ X d 155 8 [v0, v1, v2] [] h Q := (R_br (show mx_at 155 5 = some (.ifCond .eq 15, 3) by decide +kernel) rfl rfl).trans mx_ite
set_option maxRecDepth 20000 in
theorem i155_8 : ex_ X d 155 8 [v0, v1, .int x] [] h Q = ex_ X d 155 9 [v0, v1, .int x] [.int x] h Q := ex_nx (show mx_at 155 8 = some (.iload_n 2, 1) by decide +kernel) rfl
set_option maxRecDepth 20000 in
theorem i155_9 : ex_ X d 155 9 [v0, v1, v2] [.int x] h Q = ex_ X d 155 10 [v0, v1, v2] [.long x.toInt64] h Q := ex_nx (show mx_at 155 9 = some (.i2l, 1) by decide +kernel) rfl
set_option maxRecDepth 20000 in
theorem i155_10 : ex_ X d 155 10 [v0, v1, v2] [w0] h Q = ex_ X d 155 11 [v0, v1, v2] [.long 0, w0] h Q := ex_nx (show mx_at 155 10 = some (.lconst 0, 1) by decide +kernel) rfl
set_option maxRecDepth 20000 in
theorem i155_11 : ex_ X d 155 11 [v0, v1, v2] [w0, w1] h Q = ex_ X d 155 14 [v0, v1, v2] [.long 8, w0, w1] h Q := R_ldc2 (show mx_at 155 11 = some (.ldc2_w 129, 3) by decide +kernel) ow155 kl120129
set_option maxRecDepth 20000 in
theorem i155_14 : ex_ X (d + 1) 155 14 [v0, v1, v2] [.long j2, .long j1, .long j0] h Q = ev_ X d 124 [.long j0, .long j1, .long j2] h (fun r h' => ex_ X (d + 1) 155 17 [v0, v1, v2] (r.toList ++ []) h' Q) := R_stat (show mx_at 155 14 = some (.invokestatic 54, 3) by decide +kernel) (mx_clk ow155 cc12_54) (Nat.le_of_ble_eq_true rfl) rfl rfl (Nat.le_of_ble_eq_true rfl) ml124 (Nat.le_of_ble_eq_true rfl)
set_option maxRecDepth 20000 in
theorem i155_17 : ex_ X d 155 17 [v0, v1, v2] [.int x] h Q = if ¬ x = 0 then ex_ X d 155 26 [v0, v1, v2] [] h Q else ex_ X d 155 20 [v0, v1, v2] [] h Q := (R_br (show mx_at 155 17 = some (.ifCond .ne 9, 3) by decide +kernel) rfl rfl).trans mx_ite
set_option maxRecDepth 20000 in
theorem i155_20 : ex_ X d 155 20 [.ref a, v1, v2] [] h Q = ex_ X d 155 21 [.ref a, v1, v2] [.ref a] h Q := ex_nx (show mx_at 155 20 = some (.aload_n 0, 1) by decide +kernel) rfl
set_option maxRecDepth 20000 in
theorem i155_21 : ex_ X d 155 21 [v0, v1, v2] [w0] h Q = ex_ X d 155 22 [v0, v1, v2] [.int 1, w0] h Q := R_iconst (show mx_at 155 21 = some (.iconst 1, 1) by decide +kernel) (by decide)
set_option maxRecDepth 20000 in
theorem i155_22 (hc : co_ h a = some 12) : ex_ X (d + 1) 155 22 [v0, v1, v2] [.int x0, .ref a] h Q = ev_ X d 123 [.ref a, .int x0] h (fun r h' => ex_ X (d + 1) 155 25 [v0, v1, v2] (r.toList ++ []) h' Q) := R_vir (show mx_at 155 22 = some (.invokevirtual 131, 3) by decide +kernel) (mx_clk ow155 cc12_131) (Nat.le_of_ble_eq_true rfl) rfl rfl hc rfl (Nat.le_of_ble_eq_true rfl) (Nat.le_of_ble_eq_true rfl) (by rw [ml123]; exact Nat.le_of_ble_eq_true rfl)
set_option maxRecDepth 20000 in
theorem i155_25 : ex_ X d 155 25 [v0, v1, v2] [.int x] h Q = Q (some (.int x)) h := ex_ret (show mx_at 155 25 = some (.ireturn, 1) by decide +kernel) (mx_retI rt155)
set_option maxRecDepth 20000 in
theorem i155_26 : ex_ X d 155 26 [v0, v1, .int x] [] h Q = ex_ X d 155 27 [v0, v1, .int x] [.int x] h Q := ex_nx (show mx_at 155 26 = some (.iload_n 2, 1) by decide +kernel) rfl
set_option maxRecDepth 20000 in
theorem i155_27 : ex_ X d 155 27 [v0, v1, v2] [w0] h Q = ex_ X d 155 29 [v0, v1, v2] [.int 7, w0] h Q := R_bipush (show mx_at 155 27 = some (.bipush 7, 2) by decide +kernel) (by decide)
set_option maxRecDepth 20000 in
theorem i155_29 : ex_ X d 155 29 [v0, v1, v2] [.int y, .int x] h Q = if ¬ x = y then ex_ X d 155 50 [v0, v1, v2] [] h Q else ex_ X d 155 32 [v0, v1, v2] [] h Q := (R_br (show mx_at 155 29 = some (.if_icmp .ne 21, 3) by decide +kernel) rfl rfl).trans mx_ite
set_option maxRecDepth 20000 in
theorem i155_32 : ex_ X d 155 32 [.ref a, v1, v2] [] h Q = ex_ X d 155 33 [.ref a, v1, v2] [.ref a] h Q := ex_nx (show mx_at 155 32 = some (.aload_n 0, 1) by decide +kernel) rfl
set_option maxRecDepth 20000 in
theorem i155_33 : ex_ X d 155 33 [v0, v1, v2] [.ref a] h Q = (gk_ h a 0 [(12, 0)] = true ∧ ex_ X d 155 36 [v0, v1, v2] [gv_ h a 0] h Q) := R_getf (show mx_at 155 33 = some (.getfield 7, 3) by decide +kernel) (mx_fdo ow155 fd120007)
set_option maxRecDepth 20000 in
theorem i155_36 : ex_ X d 155 36 [v0, .int x, v2] [w0] h Q = ex_ X d 155 37 [v0, .int x, v2] [.int x, w0] h Q := ex_nx (show mx_at 155 36 = some (.iload_n 1, 1) by decide +kernel) rfl
set_option maxRecDepth 20000 in
theorem i155_37 : ex_ X (d + 1) 155 37 [v0, v1, v2] [.int x1, .ref a0] h Q = ev_ X d 151 [.ref a0, .int x1] h (fun r h' => ex_ X (d + 1) 155 40 [v0, v1, v2] (r.toList ++ []) h' Q) := R_stat (show mx_at 155 37 = some (.invokestatic 158, 3) by decide +kernel) (mx_clk ow155 cc12_158) (Nat.le_of_ble_eq_true rfl) rfl rfl (Nat.le_of_ble_eq_true rfl) ml151 (Nat.le_of_ble_eq_true rfl)
set_option maxRecDepth 20000 in
theorem i155_40 : ex_ X d 155 40 [v0, v1, v2] [w0] h Q = ex_ X d 155 41 [v0, v1, v2] [.int 0, w0] h Q := R_iconst (show mx_at 155 40 = some (.iconst 0, 1) by decide +kernel) (by decide)
set_option maxRecDepth 20000 in
theorem i155_41 : ex_ X d 155 41 [v0, v1, v2] [w0, w1] h Q = ex_ X d 155 44 [v0, v1, v2] [.int 999, w0, w1] h Q := R_sipush (show mx_at 155 41 = some (.sipush 999, 3) by decide +kernel) (by decide)
set_option maxRecDepth 20000 in
theorem i155_44 : ex_ X (d + 1) 155 44 [v0, v1, v2] [.int x2, .int x1, .int x0] h Q = ev_ X d 125 [.int x0, .int x1, .int x2] h (fun r h' => ex_ X (d + 1) 155 47 [v0, v1, v2] (r.toList ++ []) h' Q) := R_stat (show mx_at 155 44 = some (.invokestatic 162, 3) by decide +kernel) (mx_clk ow155 cc12_162) (Nat.le_of_ble_eq_true rfl) rfl rfl (Nat.le_of_ble_eq_true rfl) ml125 (Nat.le_of_ble_eq_true rfl)
set_option maxRecDepth 20000 in
theorem i155_47 : ex_ X d 155 47 [v0, v1, v2] [w0] h Q = ex_ X d 155 77 [v0, v1, v2] [w0] h Q := R_to (show mx_at 155 47 = some (.goto 30, 3) by decide +kernel) rfl rfl
set_option maxRecDepth 20000 in
theorem i155_50 : ex_ X d 155 50 [v0, v1, .int x] [] h Q = ex_ X d 155 51 [v0, v1, .int x] [.int x] h Q := ex_nx (show mx_at 155 50 = some (.iload_n 2, 1) by decide +kernel) rfl
set_option maxRecDepth 20000 in
theorem i155_51 : ex_ X d 155 51 [v0, v1, v2] [w0] h Q = ex_ X d 155 53 [v0, v1, v2] [.int 8, w0] h Q := R_bipush (show mx_at 155 51 = some (.bipush 8, 2) by decide +kernel) (by decide)
set_option maxRecDepth 20000 in
theorem i155_53 : ex_ X d 155 53 [v0, v1, v2] [.int y, .int x] h Q = if ¬ x = y then ex_ X d 155 68 [v0, v1, v2] [] h Q else ex_ X d 155 56 [v0, v1, v2] [] h Q := (R_br (show mx_at 155 53 = some (.if_icmp .ne 15, 3) by decide +kernel) rfl rfl).trans mx_ite
set_option maxRecDepth 20000 in
theorem i155_56 : ex_ X d 155 56 [.ref a, v1, v2] [] h Q = ex_ X d 155 57 [.ref a, v1, v2] [.ref a] h Q := ex_nx (show mx_at 155 56 = some (.aload_n 0, 1) by decide +kernel) rfl
set_option maxRecDepth 20000 in
theorem i155_57 : ex_ X d 155 57 [.ref a, v1, v2] [w0] h Q = ex_ X d 155 58 [.ref a, v1, v2] [.ref a, w0] h Q := ex_nx (show mx_at 155 57 = some (.aload_n 0, 1) by decide +kernel) rfl
set_option maxRecDepth 20000 in
theorem i155_58 : ex_ X d 155 58 [v0, v1, v2] [.ref a, w0] h Q = (gk_ h a 0 [(12, 0)] = true ∧ ex_ X d 155 61 [v0, v1, v2] [gv_ h a 0, w0] h Q) := R_getf (show mx_at 155 58 = some (.getfield 7, 3) by decide +kernel) (mx_fdo ow155 fd120007)
set_option maxRecDepth 20000 in
theorem i155_61 : ex_ X d 155 61 [v0, .int x, v2] [w0, w1] h Q = ex_ X d 155 62 [v0, .int x, v2] [.int x, w0, w1] h Q := ex_nx (show mx_at 155 61 = some (.iload_n 1, 1) by decide +kernel) rfl
set_option maxRecDepth 20000 in
theorem i155_62 (hc : co_ h a = some 12) : ex_ X (d + 1) 155 62 [v0, v1, v2] [.int x1, .ref a0, .ref a] h Q = ev_ X d 154 [.ref a, .ref a0, .int x1] h (fun r h' => ex_ X (d + 1) 155 65 [v0, v1, v2] (r.toList ++ []) h' Q) := R_vir (show mx_at 155 62 = some (.invokevirtual 176, 3) by decide +kernel) (mx_clk ow155 cc12_176) (Nat.le_of_ble_eq_true rfl) rfl rfl hc rfl (Nat.le_of_ble_eq_true rfl) (Nat.le_of_ble_eq_true rfl) (by rw [ml154]; exact Nat.le_of_ble_eq_true rfl)
set_option maxRecDepth 20000 in
theorem i155_65 : ex_ X d 155 65 [v0, v1, v2] [w0] h Q = ex_ X d 155 77 [v0, v1, v2] [w0] h Q := R_to (show mx_at 155 65 = some (.goto 12, 3) by decide +kernel) rfl rfl
set_option maxRecDepth 20000 in
theorem i155_68 : ex_ X d 155 68 [.ref a, v1, v2] [] h Q = ex_ X d 155 69 [.ref a, v1, v2] [.ref a] h Q := ex_nx (show mx_at 155 68 = some (.aload_n 0, 1) by decide +kernel) rfl
set_option maxRecDepth 20000 in
theorem i155_69 : ex_ X d 155 69 [v0, v1, v2] [.ref a] h Q = (gk_ h a 0 [(12, 0)] = true ∧ ex_ X d 155 72 [v0, v1, v2] [gv_ h a 0] h Q) := R_getf (show mx_at 155 69 = some (.getfield 7, 3) by decide +kernel) (mx_fdo ow155 fd120007)
set_option maxRecDepth 20000 in
theorem i155_72 : ex_ X d 155 72 [v0, .int x, v2] [w0] h Q = ex_ X d 155 73 [v0, .int x, v2] [.int x, w0] h Q := ex_nx (show mx_at 155 72 = some (.iload_n 1, 1) by decide +kernel) rfl
set_option maxRecDepth 20000 in
theorem i155_73 : ex_ X d 155 73 [v0, v1, .int x] [w0, w1] h Q = ex_ X d 155 74 [v0, v1, .int x] [.int x, w0, w1] h Q := ex_nx (show mx_at 155 73 = some (.iload_n 2, 1) by decide +kernel) rfl
set_option maxRecDepth 20000 in
theorem i155_74 : ex_ X (d + 1) 155 74 [v0, v1, v2] [.int x2, .int x1, .ref a0] h Q = ev_ X d 129 [.ref a0, .int x1, .int x2] h (fun r h' => ex_ X (d + 1) 155 77 [v0, v1, v2] (r.toList ++ []) h' Q) := R_stat (show mx_at 155 74 = some (.invokestatic 154, 3) by decide +kernel) (mx_clk ow155 cc12_154) (Nat.le_of_ble_eq_true rfl) rfl rfl (Nat.le_of_ble_eq_true rfl) ml129 (Nat.le_of_ble_eq_true rfl)
set_option maxRecDepth 20000 in
theorem i155_77 : ex_ X d 155 77 [v0, v1, v2] [.int x] h Q = Q (some (.int x)) h := ex_ret (show mx_at 155 77 = some (.ireturn, 1) by decide +kernel) (mx_retI rt155)
theorem i155_e : ev_ X d 155 [.ref a, .int x0, .int x1] h Q = ex_ X d 155 0 [.ref a, .int x0, .int x1] [] h Q := by rw [ev_, ml155]; rfl
-- 156 X12_set
set_option maxRecDepth 20000 in
theorem i156_0 : ex_ X d 156 0 [.ref a, v1, v2, v3, v4, v5] [] h Q = ex_ X d 156 1 [.ref a, v1, v2, v3, v4, v5] [.ref a] h Q := ex_nx (show mx_at 156 0 = some (.aload_n 0, 1) by decide +kernel) rfl
set_option maxRecDepth 20000 in
theorem i156_1 : ex_ X d 156 1 [v0, .int x, v2, v3, v4, v5] [w0] h Q = ex_ X d 156 2 [v0, .int x, v2, v3, v4, v5] [.int x, w0] h Q := ex_nx (show mx_at 156 1 = some (.iload_n 1, 1) by decide +kernel) rfl
set_option maxRecDepth 20000 in
theorem i156_2 (hc : co_ h a = some 12) : ex_ X (d + 1) 156 2 [v0, v1, v2, v3, v4, v5] [.int x0, .ref a] h Q = ev_ X d 127 [.ref a, .int x0] h (fun r h' => ex_ X (d + 1) 156 5 [v0, v1, v2, v3, v4, v5] (r.toList ++ []) h' Q) := R_vir (show mx_at 156 2 = some (.invokevirtual 173, 3) by decide +kernel) (mx_clk ow156 cc12_173) (Nat.le_of_ble_eq_true rfl) rfl rfl hc rfl (Nat.le_of_ble_eq_true rfl) (Nat.le_of_ble_eq_true rfl) (by rw [ml127]; exact Nat.le_of_ble_eq_true rfl)
set_option maxRecDepth 20000 in
theorem i156_5 : ex_ X d 156 5 [v0, v1, v2, v3, v4, v5] [.int x] h Q = if x = 0 then ex_ X d 156 20 [v0, v1, v2, v3, v4, v5] [] h Q else ex_ X d 156 8 [v0, v1, v2, v3, v4, v5] [] h Q := (R_br (show mx_at 156 5 = some (.ifCond .eq 15, 3) by decide +kernel) rfl rfl).trans mx_ite
set_option maxRecDepth 20000 in
theorem i156_8 : ex_ X d 156 8 [v0, v1, .int x, v3, v4, v5] [] h Q = ex_ X d 156 9 [v0, v1, .int x, v3, v4, v5] [.int x] h Q := ex_nx (show mx_at 156 8 = some (.iload_n 2, 1) by decide +kernel) rfl
set_option maxRecDepth 20000 in
theorem i156_9 : ex_ X d 156 9 [v0, v1, v2, v3, v4, v5] [.int x] h Q = ex_ X d 156 10 [v0, v1, v2, v3, v4, v5] [.long x.toInt64] h Q := ex_nx (show mx_at 156 9 = some (.i2l, 1) by decide +kernel) rfl
set_option maxRecDepth 20000 in
theorem i156_10 : ex_ X d 156 10 [v0, v1, v2, v3, v4, v5] [w0] h Q = ex_ X d 156 11 [v0, v1, v2, v3, v4, v5] [.long 0, w0] h Q := ex_nx (show mx_at 156 10 = some (.lconst 0, 1) by decide +kernel) rfl
set_option maxRecDepth 20000 in
theorem i156_11 : ex_ X d 156 11 [v0, v1, v2, v3, v4, v5] [w0, w1] h Q = ex_ X d 156 14 [v0, v1, v2, v3, v4, v5] [.long 2, w0, w1] h Q := R_ldc2 (show mx_at 156 11 = some (.ldc2_w 179, 3) by decide +kernel) ow156 kl120179
set_option maxRecDepth 20000 in
theorem i156_14 : ex_ X (d + 1) 156 14 [v0, v1, v2, v3, v4, v5] [.long j2, .long j1, .long j0] h Q = ev_ X d 124 [.long j0, .long j1, .long j2] h (fun r h' => ex_ X (d + 1) 156 17 [v0, v1, v2, v3, v4, v5] (r.toList ++ []) h' Q) := R_stat (show mx_at 156 14 = some (.invokestatic 54, 3) by decide +kernel) (mx_clk ow156 cc12_54) (Nat.le_of_ble_eq_true rfl) rfl rfl (Nat.le_of_ble_eq_true rfl) ml124 (Nat.le_of_ble_eq_true rfl)
set_option maxRecDepth 20000 in
theorem i156_17 : ex_ X d 156 17 [v0, v1, v2, v3, v4, v5] [.int x] h Q = if ¬ x = 0 then ex_ X d 156 26 [v0, v1, v2, v3, v4, v5] [] h Q else ex_ X d 156 20 [v0, v1, v2, v3, v4, v5] [] h Q := (R_br (show mx_at 156 17 = some (.ifCond .ne 9, 3) by decide +kernel) rfl rfl).trans mx_ite
set_option maxRecDepth 20000 in
theorem i156_20 : ex_ X d 156 20 [.ref a, v1, v2, v3, v4, v5] [] h Q = ex_ X d 156 21 [.ref a, v1, v2, v3, v4, v5] [.ref a] h Q := ex_nx (show mx_at 156 20 = some (.aload_n 0, 1) by decide +kernel) rfl
set_option maxRecDepth 20000 in
theorem i156_21 : ex_ X d 156 21 [v0, v1, v2, v3, v4, v5] [w0] h Q = ex_ X d 156 22 [v0, v1, v2, v3, v4, v5] [.int 1, w0] h Q := R_iconst (show mx_at 156 21 = some (.iconst 1, 1) by decide +kernel) (by decide)
set_option maxRecDepth 20000 in
theorem i156_22 (hc : co_ h a = some 12) : ex_ X (d + 1) 156 22 [v0, v1, v2, v3, v4, v5] [.int x0, .ref a] h Q = ev_ X d 123 [.ref a, .int x0] h (fun r h' => ex_ X (d + 1) 156 25 [v0, v1, v2, v3, v4, v5] (r.toList ++ []) h' Q) := R_vir (show mx_at 156 22 = some (.invokevirtual 131, 3) by decide +kernel) (mx_clk ow156 cc12_131) (Nat.le_of_ble_eq_true rfl) rfl rfl hc rfl (Nat.le_of_ble_eq_true rfl) (Nat.le_of_ble_eq_true rfl) (by rw [ml123]; exact Nat.le_of_ble_eq_true rfl)
set_option maxRecDepth 20000 in
theorem i156_25 : ex_ X d 156 25 [v0, v1, v2, v3, v4, v5] [.int x] h Q = Q (some (.int x)) h := ex_ret (show mx_at 156 25 = some (.ireturn, 1) by decide +kernel) (mx_retI rt156)
set_option maxRecDepth 20000 in
theorem i156_26 : ex_ X d 156 26 [v0, v1, .int x, v3, v4, v5] [] h Q = ex_ X d 156 27 [v0, v1, .int x, v3, v4, v5] [.int x] h Q := ex_nx (show mx_at 156 26 = some (.iload_n 2, 1) by decide +kernel) rfl
set_option maxRecDepth 20000 in
theorem i156_27 : ex_ X d 156 27 [v0, v1, v2, v3, v4, v5] [.int x] h Q = if ¬ x = 0 then ex_ X d 156 45 [v0, v1, v2, v3, v4, v5] [] h Q else ex_ X d 156 30 [v0, v1, v2, v3, v4, v5] [] h Q := (R_br (show mx_at 156 27 = some (.ifCond .ne 18, 3) by decide +kernel) rfl rfl).trans mx_ite
set_option maxRecDepth 20000 in
theorem i156_30 : ex_ X d 156 30 [v0, v1, v2, .int x, v4, v5] [] h Q = ex_ X d 156 31 [v0, v1, v2, .int x, v4, v5] [.int x] h Q := ex_nx (show mx_at 156 30 = some (.iload_n 3, 1) by decide +kernel) rfl
set_option maxRecDepth 20000 in
theorem i156_31 : ex_ X d 156 31 [v0, v1, v2, v3, v4, v5] [.int x] h Q = ex_ X d 156 32 [v0, v1, v2, v3, v4, v5] [.long x.toInt64] h Q := ex_nx (show mx_at 156 31 = some (.i2l, 1) by decide +kernel) rfl
set_option maxRecDepth 20000 in
theorem i156_32 : ex_ X d 156 32 [v0, v1, v2, v3, v4, v5] [w0] h Q = ex_ X d 156 33 [v0, v1, v2, v3, v4, v5] [.long 0, w0] h Q := ex_nx (show mx_at 156 32 = some (.lconst 0, 1) by decide +kernel) rfl
set_option maxRecDepth 20000 in
theorem i156_33 : ex_ X d 156 33 [v0, v1, v2, v3, v4, v5] [w0, w1] h Q = ex_ X d 156 36 [v0, v1, v2, v3, v4, v5] [.long 99, w0, w1] h Q := R_ldc2 (show mx_at 156 33 = some (.ldc2_w 150, 3) by decide +kernel) ow156 kl120150
set_option maxRecDepth 20000 in
theorem i156_36 : ex_ X (d + 1) 156 36 [v0, v1, v2, v3, v4, v5] [.long j2, .long j1, .long j0] h Q = ev_ X d 124 [.long j0, .long j1, .long j2] h (fun r h' => ex_ X (d + 1) 156 39 [v0, v1, v2, v3, v4, v5] (r.toList ++ []) h' Q) := R_stat (show mx_at 156 36 = some (.invokestatic 54, 3) by decide +kernel) (mx_clk ow156 cc12_54) (Nat.le_of_ble_eq_true rfl) rfl rfl (Nat.le_of_ble_eq_true rfl) ml124 (Nat.le_of_ble_eq_true rfl)
set_option maxRecDepth 20000 in
theorem i156_39 : ex_ X d 156 39 [v0, v1, v2, v3, v4, v5] [.int x] h Q = if ¬ x = 0 then ex_ X d 156 87 [v0, v1, v2, v3, v4, v5] [] h Q else ex_ X d 156 42 [v0, v1, v2, v3, v4, v5] [] h Q := (R_br (show mx_at 156 39 = some (.ifCond .ne 48, 3) by decide +kernel) rfl rfl).trans mx_ite
set_option maxRecDepth 20000 in
theorem i156_42 : ex_ X d 156 42 [v0, v1, v2, v3, v4, v5] [] h Q = ex_ X d 156 81 [v0, v1, v2, v3, v4, v5] [] h Q := R_to (show mx_at 156 42 = some (.goto 39, 3) by decide +kernel) rfl rfl
set_option maxRecDepth 20000 in
theorem i156_45 : ex_ X d 156 45 [v0, v1, .int x, v3, v4, v5] [] h Q = ex_ X d 156 46 [v0, v1, .int x, v3, v4, v5] [.int x] h Q := ex_nx (show mx_at 156 45 = some (.iload_n 2, 1) by decide +kernel) rfl
set_option maxRecDepth 20000 in
theorem i156_46 : ex_ X d 156 46 [v0, v1, v2, v3, v4, v5] [w0] h Q = ex_ X d 156 47 [v0, v1, v2, v3, v4, v5] [.int 1, w0] h Q := R_iconst (show mx_at 156 46 = some (.iconst 1, 1) by decide +kernel) (by decide)
set_option maxRecDepth 20000 in
theorem i156_47 : ex_ X d 156 47 [v0, v1, v2, v3, v4, v5] [.int y, .int x] h Q = if ¬ x = y then ex_ X d 156 67 [v0, v1, v2, v3, v4, v5] [] h Q else ex_ X d 156 50 [v0, v1, v2, v3, v4, v5] [] h Q := (R_br (show mx_at 156 47 = some (.if_icmp .ne 20, 3) by decide +kernel) rfl rfl).trans mx_ite
set_option maxRecDepth 20000 in
theorem i156_50 : ex_ X d 156 50 [v0, v1, v2, .int x, v4, v5] [] h Q = ex_ X d 156 51 [v0, v1, v2, .int x, v4, v5] [.int x] h Q := ex_nx (show mx_at 156 50 = some (.iload_n 3, 1) by decide +kernel) rfl
set_option maxRecDepth 20000 in
theorem i156_51 : ex_ X d 156 51 [v0, v1, v2, v3, v4, v5] [.int x] h Q = ex_ X d 156 52 [v0, v1, v2, v3, v4, v5] [.long x.toInt64] h Q := ex_nx (show mx_at 156 51 = some (.i2l, 1) by decide +kernel) rfl
set_option maxRecDepth 20000 in
theorem i156_52 : ex_ X d 156 52 [v0, v1, v2, v3, v4, v5] [w0] h Q = ex_ X d 156 55 [v0, v1, v2, v3, v4, v5] [.long (-99999999), w0] h Q := R_ldc2 (show mx_at 156 52 = some (.ldc2_w 181, 3) by decide +kernel) ow156 kl120181
set_option maxRecDepth 20000 in
theorem i156_55 : ex_ X d 156 55 [v0, v1, v2, v3, v4, v5] [w0, w1] h Q = ex_ X d 156 58 [v0, v1, v2, v3, v4, v5] [.long 99999999, w0, w1] h Q := R_ldc2 (show mx_at 156 55 = some (.ldc2_w 183, 3) by decide +kernel) ow156 kl120183
set_option maxRecDepth 20000 in
theorem i156_58 : ex_ X (d + 1) 156 58 [v0, v1, v2, v3, v4, v5] [.long j2, .long j1, .long j0] h Q = ev_ X d 124 [.long j0, .long j1, .long j2] h (fun r h' => ex_ X (d + 1) 156 61 [v0, v1, v2, v3, v4, v5] (r.toList ++ []) h' Q) := R_stat (show mx_at 156 58 = some (.invokestatic 54, 3) by decide +kernel) (mx_clk ow156 cc12_54) (Nat.le_of_ble_eq_true rfl) rfl rfl (Nat.le_of_ble_eq_true rfl) ml124 (Nat.le_of_ble_eq_true rfl)
set_option maxRecDepth 20000 in
theorem i156_61 : ex_ X d 156 61 [v0, v1, v2, v3, v4, v5] [.int x] h Q = if ¬ x = 0 then ex_ X d 156 87 [v0, v1, v2, v3, v4, v5] [] h Q else ex_ X d 156 64 [v0, v1, v2, v3, v4, v5] [] h Q := (R_br (show mx_at 156 61 = some (.ifCond .ne 26, 3) by decide +kernel) rfl rfl).trans mx_ite
set_option maxRecDepth 20000 in
theorem i156_64 : ex_ X d 156 64 [v0, v1, v2, v3, v4, v5] [] h Q = ex_ X d 156 81 [v0, v1, v2, v3, v4, v5] [] h Q := R_to (show mx_at 156 64 = some (.goto 17, 3) by decide +kernel) rfl rfl
set_option maxRecDepth 20000 in
theorem i156_67 : ex_ X d 156 67 [v0, v1, v2, .int x, v4, v5] [] h Q = ex_ X d 156 68 [v0, v1, v2, .int x, v4, v5] [.int x] h Q := ex_nx (show mx_at 156 67 = some (.iload_n 3, 1) by decide +kernel) rfl
set_option maxRecDepth 20000 in
theorem i156_68 : ex_ X d 156 68 [v0, v1, v2, v3, v4, v5] [.int x] h Q = ex_ X d 156 69 [v0, v1, v2, v3, v4, v5] [.long x.toInt64] h Q := ex_nx (show mx_at 156 68 = some (.i2l, 1) by decide +kernel) rfl
set_option maxRecDepth 20000 in
theorem i156_69 : ex_ X d 156 69 [v0, v1, v2, v3, v4, v5] [w0] h Q = ex_ X d 156 72 [v0, v1, v2, v3, v4, v5] [.long (-1), w0] h Q := R_ldc2 (show mx_at 156 69 = some (.ldc2_w 185, 3) by decide +kernel) ow156 kl120185
set_option maxRecDepth 20000 in
theorem i156_72 : ex_ X d 156 72 [v0, v1, v2, v3, v4, v5] [w0, w1] h Q = ex_ X d 156 75 [v0, v1, v2, v3, v4, v5] [.long 999, w0, w1] h Q := R_ldc2 (show mx_at 156 72 = some (.ldc2_w 187, 3) by decide +kernel) ow156 kl120187
set_option maxRecDepth 20000 in
theorem i156_75 : ex_ X (d + 1) 156 75 [v0, v1, v2, v3, v4, v5] [.long j2, .long j1, .long j0] h Q = ev_ X d 124 [.long j0, .long j1, .long j2] h (fun r h' => ex_ X (d + 1) 156 78 [v0, v1, v2, v3, v4, v5] (r.toList ++ []) h' Q) := R_stat (show mx_at 156 75 = some (.invokestatic 54, 3) by decide +kernel) (mx_clk ow156 cc12_54) (Nat.le_of_ble_eq_true rfl) rfl rfl (Nat.le_of_ble_eq_true rfl) ml124 (Nat.le_of_ble_eq_true rfl)
set_option maxRecDepth 20000 in
theorem i156_78 : ex_ X d 156 78 [v0, v1, v2, v3, v4, v5] [.int x] h Q = if ¬ x = 0 then ex_ X d 156 87 [v0, v1, v2, v3, v4, v5] [] h Q else ex_ X d 156 81 [v0, v1, v2, v3, v4, v5] [] h Q := (R_br (show mx_at 156 78 = some (.ifCond .ne 9, 3) by decide +kernel) rfl rfl).trans mx_ite
set_option maxRecDepth 20000 in
theorem i156_81 : ex_ X d 156 81 [.ref a, v1, v2, v3, v4, v5] [] h Q = ex_ X d 156 82 [.ref a, v1, v2, v3, v4, v5] [.ref a] h Q := ex_nx (show mx_at 156 81 = some (.aload_n 0, 1) by decide +kernel) rfl
set_option maxRecDepth 20000 in
theorem i156_82 : ex_ X d 156 82 [v0, v1, v2, v3, v4, v5] [w0] h Q = ex_ X d 156 83 [v0, v1, v2, v3, v4, v5] [.int 1, w0] h Q := R_iconst (show mx_at 156 82 = some (.iconst 1, 1) by decide +kernel) (by decide)
set_option maxRecDepth 20000 in
theorem i156_83 (hc : co_ h a = some 12) : ex_ X (d + 1) 156 83 [v0, v1, v2, v3, v4, v5] [.int x0, .ref a] h Q = ev_ X d 123 [.ref a, .int x0] h (fun r h' => ex_ X (d + 1) 156 86 [v0, v1, v2, v3, v4, v5] (r.toList ++ []) h' Q) := R_vir (show mx_at 156 83 = some (.invokevirtual 131, 3) by decide +kernel) (mx_clk ow156 cc12_131) (Nat.le_of_ble_eq_true rfl) rfl rfl hc rfl (Nat.le_of_ble_eq_true rfl) (Nat.le_of_ble_eq_true rfl) (by rw [ml123]; exact Nat.le_of_ble_eq_true rfl)
set_option maxRecDepth 20000 in
theorem i156_86 : ex_ X d 156 86 [v0, v1, v2, v3, v4, v5] [.int x] h Q = Q (some (.int x)) h := ex_ret (show mx_at 156 86 = some (.ireturn, 1) by decide +kernel) (mx_retI rt156)
set_option maxRecDepth 20000 in
theorem i156_87 : ex_ X d 156 87 [v0, v1, v2, v3, v4, v5] [] h Q = ex_ X d 156 89 [v0, v1, v2, v3, v4, v5] [.int 20] h Q := R_bipush (show mx_at 156 87 = some (.bipush 20, 2) by decide +kernel) (by decide)
set_option maxRecDepth 20000 in
theorem i156_89 : ex_ X d 156 89 [v0, v1, v2, v3, v4, v5] [w0] h Q = ex_ X d 156 91 [v0, v1, v2, v3, v4, v5] [.int 8, w0] h Q := R_bipush (show mx_at 156 89 = some (.bipush 8, 2) by decide +kernel) (by decide)
set_option maxRecDepth 20000 in
theorem i156_91 : ex_ X d 156 91 [v0, .int x, v2, v3, v4, v5] [w0, w1] h Q = ex_ X d 156 92 [v0, .int x, v2, v3, v4, v5] [.int x, w0, w1] h Q := ex_nx (show mx_at 156 91 = some (.iload_n 1, 1) by decide +kernel) rfl
set_option maxRecDepth 20000 in
theorem i156_92 : ex_ X d 156 92 [v0, v1, v2, v3, v4, v5] [.int y, .int x, w0] h Q = ex_ X d 156 93 [v0, v1, v2, v3, v4, v5] [.int (x * y), w0] h Q := ex_nx (show mx_at 156 92 = some (.imul, 1) by decide +kernel) rfl
set_option maxRecDepth 20000 in
theorem i156_93 : ex_ X d 156 93 [v0, v1, v2, v3, v4, v5] [.int y, .int x] h Q = ex_ X d 156 94 [v0, v1, v2, v3, v4, v5] [.int (x + y)] h Q := ex_nx (show mx_at 156 93 = some (.iadd, 1) by decide +kernel) rfl
set_option maxRecDepth 20000 in
theorem i156_94 : ex_ X d 156 94 [v0, v1, v2, v3, v4, v5] [w0] h Q = ex_ X d 156 95 [v0, v1, v2, v3, v4, v5] [.int 4, w0] h Q := R_iconst (show mx_at 156 94 = some (.iconst 4, 1) by decide +kernel) (by decide)
set_option maxRecDepth 20000 in
theorem i156_95 : ex_ X d 156 95 [v0, v1, v2, v3, v4, v5] [.int y, .int x] h Q = ex_ X d 156 96 [v0, v1, v2, v3, v4, v5] [.int (x + y)] h Q := ex_nx (show mx_at 156 95 = some (.iadd, 1) by decide +kernel) rfl
set_option maxRecDepth 20000 in
theorem i156_96 : ex_ X d 156 96 [v0, v1, .int x, v3, v4, v5] [w0] h Q = ex_ X d 156 97 [v0, v1, .int x, v3, v4, v5] [.int x, w0] h Q := ex_nx (show mx_at 156 96 = some (.iload_n 2, 1) by decide +kernel) rfl
set_option maxRecDepth 20000 in
theorem i156_97 : ex_ X d 156 97 [v0, v1, v2, v3, v4, v5] [.int y, .int x] h Q = ex_ X d 156 98 [v0, v1, v2, v3, v4, v5] [.int (x + y)] h Q := ex_nx (show mx_at 156 97 = some (.iadd, 1) by decide +kernel) rfl
set_option maxRecDepth 20000 in
theorem i156_98 : ex_ X d 156 98 [v0, v1, v2, v3, v4, v5] [.int x] h Q = (mx_nl v3 = true ∧ ex_ X d 156 100 [v0, v1, v2, v3, .int x, v5] [] h Q) := mx_t1 (R_st (ok := mx_isI) (n := 4) (w := 2) (show mx_at 156 98 = some (.istore 4, 2) by decide +kernel) (fun _ _ => rfl) (Nat.le_of_ble_eq_true rfl)) rfl
set_option maxRecDepth 20000 in
theorem i156_100 : ex_ X d 156 100 [.ref a, v1, v2, v3, v4, v5] [] h Q = ex_ X d 156 101 [.ref a, v1, v2, v3, v4, v5] [.ref a] h Q := ex_nx (show mx_at 156 100 = some (.aload_n 0, 1) by decide +kernel) rfl
set_option maxRecDepth 20000 in
theorem i156_101 : ex_ X d 156 101 [v0, v1, v2, v3, v4, v5] [.ref a] h Q = (gk_ h a 0 [(12, 0)] = true ∧ ex_ X d 156 104 [v0, v1, v2, v3, v4, v5] [gv_ h a 0] h Q) := R_getf (show mx_at 156 101 = some (.getfield 7, 3) by decide +kernel) (mx_fdo ow156 fd120007)
set_option maxRecDepth 20000 in
theorem i156_104 : ex_ X d 156 104 [v0, v1, v2, v3, .int x, v5] [w0] h Q = ex_ X d 156 106 [v0, v1, v2, v3, .int x, v5] [.int x, w0] h Q := ex_nx (show mx_at 156 104 = some (.iload 4, 2) by decide +kernel) rfl
set_option maxRecDepth 20000 in
theorem i156_106 : ex_ X d 156 106 [v0, v1, v2, v3, v4, v5] [.int i, .ref a] h Q = (ik_ h a i = true ∧ ex_ X d 156 107 [v0, v1, v2, v3, v4, v5] [.int (ia_ h a i)] h Q) := R_iald (show mx_at 156 106 = some (.iaload, 1) by decide +kernel)
set_option maxRecDepth 20000 in
theorem i156_107 : ex_ X d 156 107 [v0, v1, v2, v3, v4, v5] [.int x] h Q = (mx_nl v4 = true ∧ ex_ X d 156 109 [v0, v1, v2, v3, v4, .int x] [] h Q) := mx_t1 (R_st (ok := mx_isI) (n := 5) (w := 2) (show mx_at 156 107 = some (.istore 5, 2) by decide +kernel) (fun _ _ => rfl) (Nat.le_of_ble_eq_true rfl)) rfl
set_option maxRecDepth 20000 in
theorem i156_109 : ex_ X d 156 109 [.ref a, v1, v2, v3, v4, v5] [] h Q = ex_ X d 156 110 [.ref a, v1, v2, v3, v4, v5] [.ref a] h Q := ex_nx (show mx_at 156 109 = some (.aload_n 0, 1) by decide +kernel) rfl
set_option maxRecDepth 20000 in
theorem i156_110 : ex_ X d 156 110 [v0, v1, v2, v3, v4, v5] [.ref a] h Q = (gk_ h a 0 [(12, 0)] = true ∧ ex_ X d 156 113 [v0, v1, v2, v3, v4, v5] [gv_ h a 0] h Q) := R_getf (show mx_at 156 110 = some (.getfield 7, 3) by decide +kernel) (mx_fdo ow156 fd120007)
set_option maxRecDepth 20000 in
theorem i156_113 : ex_ X d 156 113 [v0, v1, v2, v3, .int x, v5] [w0] h Q = ex_ X d 156 115 [v0, v1, v2, v3, .int x, v5] [.int x, w0] h Q := ex_nx (show mx_at 156 113 = some (.iload 4, 2) by decide +kernel) rfl
set_option maxRecDepth 20000 in
theorem i156_115 : ex_ X d 156 115 [v0, v1, v2, .int x, v4, v5] [w0, w1] h Q = ex_ X d 156 116 [v0, v1, v2, .int x, v4, v5] [.int x, w0, w1] h Q := ex_nx (show mx_at 156 115 = some (.iload_n 3, 1) by decide +kernel) rfl
set_option maxRecDepth 20000 in
theorem i156_116 : ex_ X d 156 116 [v0, v1, v2, v3, v4, v5] [.int x, .int i, .ref a] h Q = (ik_ h a i = true ∧ ex_ X d 156 117 [v0, v1, v2, v3, v4, v5] [] (is_ h a i x) Q) := R_iast (show mx_at 156 116 = some (.iastore, 1) by decide +kernel)
set_option maxRecDepth 20000 in
theorem i156_117 : ex_ X d 156 117 [v0, v1, v2, v3, v4, .int x] [] h Q = ex_ X d 156 119 [v0, v1, v2, v3, v4, .int x] [.int x] h Q := ex_nx (show mx_at 156 117 = some (.iload 5, 2) by decide +kernel) rfl
set_option maxRecDepth 20000 in
theorem i156_119 : ex_ X d 156 119 [v0, v1, v2, v3, v4, v5] [.int x] h Q = Q (some (.int x)) h := ex_ret (show mx_at 156 119 = some (.ireturn, 1) by decide +kernel) (mx_retI rt156)
theorem i156_e : ev_ X d 156 [.ref a, .int x0, .int x1, .int x2] h Q = ex_ X d 156 0 [.ref a, .int x0, .int x1, .int x2, .double 0, .double 0] [] h Q := by rw [ev_, ml156]; rfl
-- 157 X12_isOf
set_option maxRecDepth 20000 in
theorem i157_0 : ex_ X d 157 0 [v0, .int x] [] h Q = ex_ X d 157 1 [v0, .int x] [.int x] h Q := ex_nx (show mx_at 157 0 = some (.iload_n 1, 1) by decide +kernel) rfl
set_option maxRecDepth 20000 in
theorem i157_1 : ex_ X d 157 1 [v0, v1] [.int x] h Q = if x = 0 then ex_ X d 157 40 [v0, v1] [] h Q else ex_ X d 157 4 [v0, v1] [] h Q := (R_br (show mx_at 157 1 = some (.ifCond .eq 39, 3) by decide +kernel) rfl rfl).trans mx_ite
set_option maxRecDepth 20000 in
theorem i157_4 : ex_ X d 157 4 [v0, .int x] [] h Q = ex_ X d 157 5 [v0, .int x] [.int x] h Q := ex_nx (show mx_at 157 4 = some (.iload_n 1, 1) by decide +kernel) rfl
set_option maxRecDepth 20000 in
theorem i157_5 : ex_ X d 157 5 [.int x, v1] [w0] h Q = ex_ X d 157 6 [.int x, v1] [.int x, w0] h Q := ex_nx (show mx_at 157 5 = some (.iload_n 0, 1) by decide +kernel) rfl
set_option maxRecDepth 20000 in
theorem i157_6 : ex_ X d 157 6 [v0, v1] [.int y, .int x] h Q = if x = y then ex_ X d 157 40 [v0, v1] [] h Q else ex_ X d 157 9 [v0, v1] [] h Q := (R_br (show mx_at 157 6 = some (.if_icmp .eq 34, 3) by decide +kernel) rfl rfl).trans mx_ite
set_option maxRecDepth 20000 in
theorem i157_9 : ex_ X d 157 9 [v0, .int x] [] h Q = ex_ X d 157 10 [v0, .int x] [.int x] h Q := ex_nx (show mx_at 157 9 = some (.iload_n 1, 1) by decide +kernel) rfl
set_option maxRecDepth 20000 in
theorem i157_10 : ex_ X d 157 10 [v0, v1] [w0] h Q = ex_ X d 157 11 [v0, v1] [.int 2, w0] h Q := R_iconst (show mx_at 157 10 = some (.iconst 2, 1) by decide +kernel) (by decide)
set_option maxRecDepth 20000 in
theorem i157_11 : ex_ X d 157 11 [v0, v1] [.int y, .int x] h Q = if ¬ x = y then ex_ X d 157 19 [v0, v1] [] h Q else ex_ X d 157 14 [v0, v1] [] h Q := (R_br (show mx_at 157 11 = some (.if_icmp .ne 8, 3) by decide +kernel) rfl rfl).trans mx_ite
set_option maxRecDepth 20000 in
theorem i157_14 : ex_ X d 157 14 [.int x, v1] [] h Q = ex_ X d 157 15 [.int x, v1] [.int x] h Q := ex_nx (show mx_at 157 14 = some (.iload_n 0, 1) by decide +kernel) rfl
set_option maxRecDepth 20000 in
theorem i157_15 : ex_ X d 157 15 [v0, v1] [w0] h Q = ex_ X d 157 16 [v0, v1] [.int 3, w0] h Q := R_iconst (show mx_at 157 15 = some (.iconst 3, 1) by decide +kernel) (by decide)
set_option maxRecDepth 20000 in
theorem i157_16 : ex_ X d 157 16 [v0, v1] [.int y, .int x] h Q = if x = y then ex_ X d 157 40 [v0, v1] [] h Q else ex_ X d 157 19 [v0, v1] [] h Q := (R_br (show mx_at 157 16 = some (.if_icmp .eq 24, 3) by decide +kernel) rfl rfl).trans mx_ite
set_option maxRecDepth 20000 in
theorem i157_19 : ex_ X d 157 19 [v0, .int x] [] h Q = ex_ X d 157 20 [v0, .int x] [.int x] h Q := ex_nx (show mx_at 157 19 = some (.iload_n 1, 1) by decide +kernel) rfl
set_option maxRecDepth 20000 in
theorem i157_20 : ex_ X d 157 20 [v0, v1] [w0] h Q = ex_ X d 157 21 [v0, v1] [.int 4, w0] h Q := R_iconst (show mx_at 157 20 = some (.iconst 4, 1) by decide +kernel) (by decide)
set_option maxRecDepth 20000 in
theorem i157_21 : ex_ X d 157 21 [v0, v1] [.int y, .int x] h Q = if ¬ x = y then ex_ X d 157 29 [v0, v1] [] h Q else ex_ X d 157 24 [v0, v1] [] h Q := (R_br (show mx_at 157 21 = some (.if_icmp .ne 8, 3) by decide +kernel) rfl rfl).trans mx_ite
set_option maxRecDepth 20000 in
theorem i157_24 : ex_ X d 157 24 [.int x, v1] [] h Q = ex_ X d 157 25 [.int x, v1] [.int x] h Q := ex_nx (show mx_at 157 24 = some (.iload_n 0, 1) by decide +kernel) rfl
set_option maxRecDepth 20000 in
theorem i157_25 : ex_ X d 157 25 [v0, v1] [w0] h Q = ex_ X d 157 26 [v0, v1] [.int 5, w0] h Q := R_iconst (show mx_at 157 25 = some (.iconst 5, 1) by decide +kernel) (by decide)
set_option maxRecDepth 20000 in
theorem i157_26 : ex_ X d 157 26 [v0, v1] [.int y, .int x] h Q = if x = y then ex_ X d 157 40 [v0, v1] [] h Q else ex_ X d 157 29 [v0, v1] [] h Q := (R_br (show mx_at 157 26 = some (.if_icmp .eq 14, 3) by decide +kernel) rfl rfl).trans mx_ite
set_option maxRecDepth 20000 in
theorem i157_29 : ex_ X d 157 29 [v0, .int x] [] h Q = ex_ X d 157 30 [v0, .int x] [.int x] h Q := ex_nx (show mx_at 157 29 = some (.iload_n 1, 1) by decide +kernel) rfl
set_option maxRecDepth 20000 in
theorem i157_30 : ex_ X d 157 30 [v0, v1] [w0] h Q = ex_ X d 157 31 [v0, v1] [.int 1, w0] h Q := R_iconst (show mx_at 157 30 = some (.iconst 1, 1) by decide +kernel) (by decide)
set_option maxRecDepth 20000 in
theorem i157_31 : ex_ X d 157 31 [v0, v1] [.int y, .int x] h Q = if ¬ x = y then ex_ X d 157 44 [v0, v1] [] h Q else ex_ X d 157 34 [v0, v1] [] h Q := (R_br (show mx_at 157 31 = some (.if_icmp .ne 13, 3) by decide +kernel) rfl rfl).trans mx_ite
set_option maxRecDepth 20000 in
theorem i157_34 : ex_ X d 157 34 [.int x, v1] [] h Q = ex_ X d 157 35 [.int x, v1] [.int x] h Q := ex_nx (show mx_at 157 34 = some (.iload_n 0, 1) by decide +kernel) rfl
set_option maxRecDepth 20000 in
theorem i157_35 : ex_ X d 157 35 [v0, v1] [w0] h Q = ex_ X d 157 37 [v0, v1] [.int 6, w0] h Q := R_bipush (show mx_at 157 35 = some (.bipush 6, 2) by decide +kernel) (by decide)
set_option maxRecDepth 20000 in
theorem i157_37 : ex_ X d 157 37 [v0, v1] [.int y, .int x] h Q = if ¬ x = y then ex_ X d 157 44 [v0, v1] [] h Q else ex_ X d 157 40 [v0, v1] [] h Q := (R_br (show mx_at 157 37 = some (.if_icmp .ne 7, 3) by decide +kernel) rfl rfl).trans mx_ite
set_option maxRecDepth 20000 in
theorem i157_40 : ex_ X d 157 40 [v0, v1] [] h Q = ex_ X d 157 41 [v0, v1] [.int 1] h Q := R_iconst (show mx_at 157 40 = some (.iconst 1, 1) by decide +kernel) (by decide)
set_option maxRecDepth 20000 in
theorem i157_41 : ex_ X d 157 41 [v0, v1] [w0] h Q = ex_ X d 157 45 [v0, v1] [w0] h Q := R_to (show mx_at 157 41 = some (.goto 4, 3) by decide +kernel) rfl rfl
set_option maxRecDepth 20000 in
theorem i157_44 : ex_ X d 157 44 [v0, v1] [] h Q = ex_ X d 157 45 [v0, v1] [.int 0] h Q := R_iconst (show mx_at 157 44 = some (.iconst 0, 1) by decide +kernel) (by decide)
set_option maxRecDepth 20000 in
theorem i157_45 (hx : x = 0 ∨ x = 1) : ex_ X d 157 45 [v0, v1] [.int x] h Q = Q (some (.int x)) h := ex_ret (show mx_at 157 45 = some (.ireturn, 1) by decide +kernel) (mx_retZ hx rt157)
theorem i157_e : ev_ X d 157 [.int x0, .int x1] h Q = ex_ X d 157 0 [.int x0, .int x1] [] h Q := by rw [ev_, ml157]; rfl
-- 158 X12_as
set_option maxRecDepth 20000 in
theorem i158_0 : ex_ X d 158 0 [.ref a, v1, v2] [] h Q = ex_ X d 158 1 [.ref a, v1, v2] [.ref a] h Q := ex_nx (show mx_at 158 0 = some (.aload_n 0, 1) by decide +kernel) rfl
set_option maxRecDepth 20000 in
theorem i158_1 : ex_ X d 158 1 [v0, .int x, v2] [w0] h Q = ex_ X d 158 2 [v0, .int x, v2] [.int x, w0] h Q := ex_nx (show mx_at 158 1 = some (.iload_n 1, 1) by decide +kernel) rfl
set_option maxRecDepth 20000 in
theorem i158_2 (hc : co_ h a = some 12) : ex_ X (d + 1) 158 2 [v0, v1, v2] [.int x0, .ref a] h Q = ev_ X d 127 [.ref a, .int x0] h (fun r h' => ex_ X (d + 1) 158 5 [v0, v1, v2] (r.toList ++ []) h' Q) := R_vir (show mx_at 158 2 = some (.invokevirtual 173, 3) by decide +kernel) (mx_clk ow158 cc12_173) (Nat.le_of_ble_eq_true rfl) rfl rfl hc rfl (Nat.le_of_ble_eq_true rfl) (Nat.le_of_ble_eq_true rfl) (by rw [ml127]; exact Nat.le_of_ble_eq_true rfl)
set_option maxRecDepth 20000 in
theorem i158_5 : ex_ X d 158 5 [v0, v1, v2] [.int x] h Q = if x = 0 then ex_ X d 158 20 [v0, v1, v2] [] h Q else ex_ X d 158 8 [v0, v1, v2] [] h Q := (R_br (show mx_at 158 5 = some (.ifCond .eq 15, 3) by decide +kernel) rfl rfl).trans mx_ite
set_option maxRecDepth 20000 in
theorem i158_8 : ex_ X d 158 8 [v0, v1, .int x] [] h Q = ex_ X d 158 9 [v0, v1, .int x] [.int x] h Q := ex_nx (show mx_at 158 8 = some (.iload_n 2, 1) by decide +kernel) rfl
set_option maxRecDepth 20000 in
theorem i158_9 : ex_ X d 158 9 [v0, v1, v2] [.int x] h Q = ex_ X d 158 10 [v0, v1, v2] [.long x.toInt64] h Q := ex_nx (show mx_at 158 9 = some (.i2l, 1) by decide +kernel) rfl
set_option maxRecDepth 20000 in
theorem i158_10 : ex_ X d 158 10 [v0, v1, v2] [w0] h Q = ex_ X d 158 11 [v0, v1, v2] [.long 0, w0] h Q := ex_nx (show mx_at 158 10 = some (.lconst 0, 1) by decide +kernel) rfl
set_option maxRecDepth 20000 in
theorem i158_11 : ex_ X d 158 11 [v0, v1, v2] [w0, w1] h Q = ex_ X d 158 14 [v0, v1, v2] [.long 6, w0, w1] h Q := R_ldc2 (show mx_at 158 11 = some (.ldc2_w 148, 3) by decide +kernel) ow158 kl120148
set_option maxRecDepth 20000 in
theorem i158_14 : ex_ X (d + 1) 158 14 [v0, v1, v2] [.long j2, .long j1, .long j0] h Q = ev_ X d 124 [.long j0, .long j1, .long j2] h (fun r h' => ex_ X (d + 1) 158 17 [v0, v1, v2] (r.toList ++ []) h' Q) := R_stat (show mx_at 158 14 = some (.invokestatic 54, 3) by decide +kernel) (mx_clk ow158 cc12_54) (Nat.le_of_ble_eq_true rfl) rfl rfl (Nat.le_of_ble_eq_true rfl) ml124 (Nat.le_of_ble_eq_true rfl)
set_option maxRecDepth 20000 in
theorem i158_17 : ex_ X d 158 17 [v0, v1, v2] [.int x] h Q = if ¬ x = 0 then ex_ X d 158 26 [v0, v1, v2] [] h Q else ex_ X d 158 20 [v0, v1, v2] [] h Q := (R_br (show mx_at 158 17 = some (.ifCond .ne 9, 3) by decide +kernel) rfl rfl).trans mx_ite
set_option maxRecDepth 20000 in
theorem i158_20 : ex_ X d 158 20 [.ref a, v1, v2] [] h Q = ex_ X d 158 21 [.ref a, v1, v2] [.ref a] h Q := ex_nx (show mx_at 158 20 = some (.aload_n 0, 1) by decide +kernel) rfl
set_option maxRecDepth 20000 in
theorem i158_21 : ex_ X d 158 21 [v0, v1, v2] [w0] h Q = ex_ X d 158 22 [v0, v1, v2] [.int 1, w0] h Q := R_iconst (show mx_at 158 21 = some (.iconst 1, 1) by decide +kernel) (by decide)
set_option maxRecDepth 20000 in
theorem i158_22 (hc : co_ h a = some 12) : ex_ X (d + 1) 158 22 [v0, v1, v2] [.int x0, .ref a] h Q = ev_ X d 123 [.ref a, .int x0] h (fun r h' => ex_ X (d + 1) 158 25 [v0, v1, v2] (r.toList ++ []) h' Q) := R_vir (show mx_at 158 22 = some (.invokevirtual 131, 3) by decide +kernel) (mx_clk ow158 cc12_131) (Nat.le_of_ble_eq_true rfl) rfl rfl hc rfl (Nat.le_of_ble_eq_true rfl) (Nat.le_of_ble_eq_true rfl) (by rw [ml123]; exact Nat.le_of_ble_eq_true rfl)
set_option maxRecDepth 20000 in
theorem i158_25 : ex_ X d 158 25 [v0, v1, v2] [.int x] h Q = Q (some (.int x)) h := ex_ret (show mx_at 158 25 = some (.ireturn, 1) by decide +kernel) (mx_retI rt158)
set_option maxRecDepth 20000 in
theorem i158_26 : ex_ X d 158 26 [.ref a, v1, v2] [] h Q = ex_ X d 158 27 [.ref a, v1, v2] [.ref a] h Q := ex_nx (show mx_at 158 26 = some (.aload_n 0, 1) by decide +kernel) rfl
set_option maxRecDepth 20000 in
theorem i158_27 : ex_ X d 158 27 [v0, v1, v2] [.ref a] h Q = (gk_ h a 0 [(12, 0)] = true ∧ ex_ X d 158 30 [v0, v1, v2] [gv_ h a 0] h Q) := R_getf (show mx_at 158 27 = some (.getfield 7, 3) by decide +kernel) (mx_fdo ow158 fd120007)
set_option maxRecDepth 20000 in
theorem i158_30 : ex_ X d 158 30 [v0, .int x, v2] [w0] h Q = ex_ X d 158 31 [v0, .int x, v2] [.int x, w0] h Q := ex_nx (show mx_at 158 30 = some (.iload_n 1, 1) by decide +kernel) rfl
set_option maxRecDepth 20000 in
theorem i158_31 : ex_ X d 158 31 [v0, v1, v2] [w0, w1] h Q = ex_ X d 158 32 [v0, v1, v2] [.int 0, w0, w1] h Q := R_iconst (show mx_at 158 31 = some (.iconst 0, 1) by decide +kernel) (by decide)
set_option maxRecDepth 20000 in
theorem i158_32 : ex_ X (d + 1) 158 32 [v0, v1, v2] [.int x2, .int x1, .ref a0] h Q = ev_ X d 129 [.ref a0, .int x1, .int x2] h (fun r h' => ex_ X (d + 1) 158 35 [v0, v1, v2] (r.toList ++ []) h' Q) := R_stat (show mx_at 158 32 = some (.invokestatic 154, 3) by decide +kernel) (mx_clk ow158 cc12_154) (Nat.le_of_ble_eq_true rfl) rfl rfl (Nat.le_of_ble_eq_true rfl) ml129 (Nat.le_of_ble_eq_true rfl)
set_option maxRecDepth 20000 in
theorem i158_35 : ex_ X d 158 35 [v0, v1, .int x] [w0] h Q = ex_ X d 158 36 [v0, v1, .int x] [.int x, w0] h Q := ex_nx (show mx_at 158 35 = some (.iload_n 2, 1) by decide +kernel) rfl
set_option maxRecDepth 20000 in
theorem i158_36 : ex_ X (d + 1) 158 36 [v0, v1, v2] [.int x1, .int x0] h Q = ev_ X d 157 [.int x0, .int x1] h (fun r h' => ex_ X (d + 1) 158 39 [v0, v1, v2] (r.toList ++ []) h' Q) := R_stat (show mx_at 158 36 = some (.invokestatic 189, 3) by decide +kernel) (mx_clk ow158 cc12_189) (Nat.le_of_ble_eq_true rfl) rfl rfl (Nat.le_of_ble_eq_true rfl) ml157 (Nat.le_of_ble_eq_true rfl)
set_option maxRecDepth 20000 in
theorem i158_39 : ex_ X d 158 39 [v0, v1, v2] [.int x] h Q = if x = 0 then ex_ X d 158 54 [v0, v1, v2] [] h Q else ex_ X d 158 42 [v0, v1, v2] [] h Q := (R_br (show mx_at 158 39 = some (.ifCond .eq 15, 3) by decide +kernel) rfl rfl).trans mx_ite
set_option maxRecDepth 20000 in
theorem i158_42 : ex_ X d 158 42 [.ref a, v1, v2] [] h Q = ex_ X d 158 43 [.ref a, v1, v2] [.ref a] h Q := ex_nx (show mx_at 158 42 = some (.aload_n 0, 1) by decide +kernel) rfl
set_option maxRecDepth 20000 in
theorem i158_43 : ex_ X d 158 43 [v0, v1, v2] [.ref a] h Q = (gk_ h a 0 [(12, 0)] = true ∧ ex_ X d 158 46 [v0, v1, v2] [gv_ h a 0] h Q) := R_getf (show mx_at 158 43 = some (.getfield 7, 3) by decide +kernel) (mx_fdo ow158 fd120007)
set_option maxRecDepth 20000 in
theorem i158_46 : ex_ X d 158 46 [v0, .int x, v2] [w0] h Q = ex_ X d 158 47 [v0, .int x, v2] [.int x, w0] h Q := ex_nx (show mx_at 158 46 = some (.iload_n 1, 1) by decide +kernel) rfl
set_option maxRecDepth 20000 in
theorem i158_47 : ex_ X d 158 47 [v0, v1, v2] [w0, w1] h Q = ex_ X d 158 48 [v0, v1, v2] [.int 1, w0, w1] h Q := R_iconst (show mx_at 158 47 = some (.iconst 1, 1) by decide +kernel) (by decide)
set_option maxRecDepth 20000 in
theorem i158_48 : ex_ X (d + 1) 158 48 [v0, v1, v2] [.int x2, .int x1, .ref a0] h Q = ev_ X d 129 [.ref a0, .int x1, .int x2] h (fun r h' => ex_ X (d + 1) 158 51 [v0, v1, v2] (r.toList ++ []) h' Q) := R_stat (show mx_at 158 48 = some (.invokestatic 154, 3) by decide +kernel) (mx_clk ow158 cc12_154) (Nat.le_of_ble_eq_true rfl) rfl rfl (Nat.le_of_ble_eq_true rfl) ml129 (Nat.le_of_ble_eq_true rfl)
set_option maxRecDepth 20000 in
theorem i158_51 : ex_ X d 158 51 [v0, v1, v2] [w0] h Q = ex_ X d 158 59 [v0, v1, v2] [w0] h Q := R_to (show mx_at 158 51 = some (.goto 8, 3) by decide +kernel) rfl rfl
set_option maxRecDepth 20000 in
theorem i158_54 : ex_ X d 158 54 [.ref a, v1, v2] [] h Q = ex_ X d 158 55 [.ref a, v1, v2] [.ref a] h Q := ex_nx (show mx_at 158 54 = some (.aload_n 0, 1) by decide +kernel) rfl
set_option maxRecDepth 20000 in
theorem i158_55 : ex_ X d 158 55 [v0, v1, v2] [w0] h Q = ex_ X d 158 56 [v0, v1, v2] [.int 5, w0] h Q := R_iconst (show mx_at 158 55 = some (.iconst 5, 1) by decide +kernel) (by decide)
set_option maxRecDepth 20000 in
theorem i158_56 (hc : co_ h a = some 12) : ex_ X (d + 1) 158 56 [v0, v1, v2] [.int x0, .ref a] h Q = ev_ X d 123 [.ref a, .int x0] h (fun r h' => ex_ X (d + 1) 158 59 [v0, v1, v2] (r.toList ++ []) h' Q) := R_vir (show mx_at 158 56 = some (.invokevirtual 131, 3) by decide +kernel) (mx_clk ow158 cc12_131) (Nat.le_of_ble_eq_true rfl) rfl rfl hc rfl (Nat.le_of_ble_eq_true rfl) (Nat.le_of_ble_eq_true rfl) (by rw [ml123]; exact Nat.le_of_ble_eq_true rfl)
set_option maxRecDepth 20000 in
theorem i158_59 : ex_ X d 158 59 [v0, v1, v2] [.int x] h Q = Q (some (.int x)) h := ex_ret (show mx_at 158 59 = some (.ireturn, 1) by decide +kernel) (mx_retI rt158)
theorem i158_e : ev_ X d 158 [.ref a, .int x0, .int x1] h Q = ex_ X d 158 0 [.ref a, .int x0, .int x1] [] h Q := by rw [ev_, ml158]; rfl
-- 159 X12_may
set_option maxRecDepth 20000 in
theorem i159_0 : ex_ X d 159 0 [.ref a, v1, v2] [] h Q = ex_ X d 159 1 [.ref a, v1, v2] [.ref a] h Q := ex_nx (show mx_at 159 0 = some (.aload_n 0, 1) by decide +kernel) rfl
set_option maxRecDepth 20000 in
theorem i159_1 : ex_ X d 159 1 [v0, .int x, v2] [w0] h Q = ex_ X d 159 2 [v0, .int x, v2] [.int x, w0] h Q := ex_nx (show mx_at 159 1 = some (.iload_n 1, 1) by decide +kernel) rfl
set_option maxRecDepth 20000 in
theorem i159_2 (hc : co_ h a = some 12) : ex_ X (d + 1) 159 2 [v0, v1, v2] [.int x0, .ref a] h Q = ev_ X d 127 [.ref a, .int x0] h (fun r h' => ex_ X (d + 1) 159 5 [v0, v1, v2] (r.toList ++ []) h' Q) := R_vir (show mx_at 159 2 = some (.invokevirtual 173, 3) by decide +kernel) (mx_clk ow159 cc12_173) (Nat.le_of_ble_eq_true rfl) rfl rfl hc rfl (Nat.le_of_ble_eq_true rfl) (Nat.le_of_ble_eq_true rfl) (by rw [ml127]; exact Nat.le_of_ble_eq_true rfl)
set_option maxRecDepth 20000 in
theorem i159_5 : ex_ X d 159 5 [v0, v1, v2] [.int x] h Q = if x = 0 then ex_ X d 159 20 [v0, v1, v2] [] h Q else ex_ X d 159 8 [v0, v1, v2] [] h Q := (R_br (show mx_at 159 5 = some (.ifCond .eq 15, 3) by decide +kernel) rfl rfl).trans mx_ite
set_option maxRecDepth 20000 in
theorem i159_8 : ex_ X d 159 8 [v0, v1, .int x] [] h Q = ex_ X d 159 9 [v0, v1, .int x] [.int x] h Q := ex_nx (show mx_at 159 8 = some (.iload_n 2, 1) by decide +kernel) rfl
set_option maxRecDepth 20000 in
theorem i159_9 : ex_ X d 159 9 [v0, v1, v2] [.int x] h Q = ex_ X d 159 10 [v0, v1, v2] [.long x.toInt64] h Q := ex_nx (show mx_at 159 9 = some (.i2l, 1) by decide +kernel) rfl
set_option maxRecDepth 20000 in
theorem i159_10 : ex_ X d 159 10 [v0, v1, v2] [w0] h Q = ex_ X d 159 11 [v0, v1, v2] [.long 0, w0] h Q := ex_nx (show mx_at 159 10 = some (.lconst 0, 1) by decide +kernel) rfl
set_option maxRecDepth 20000 in
theorem i159_11 : ex_ X d 159 11 [v0, v1, v2] [w0, w1] h Q = ex_ X d 159 14 [v0, v1, v2] [.long 999, w0, w1] h Q := R_ldc2 (show mx_at 159 11 = some (.ldc2_w 187, 3) by decide +kernel) ow159 kl120187
set_option maxRecDepth 20000 in
theorem i159_14 : ex_ X (d + 1) 159 14 [v0, v1, v2] [.long j2, .long j1, .long j0] h Q = ev_ X d 124 [.long j0, .long j1, .long j2] h (fun r h' => ex_ X (d + 1) 159 17 [v0, v1, v2] (r.toList ++ []) h' Q) := R_stat (show mx_at 159 14 = some (.invokestatic 54, 3) by decide +kernel) (mx_clk ow159 cc12_54) (Nat.le_of_ble_eq_true rfl) rfl rfl (Nat.le_of_ble_eq_true rfl) ml124 (Nat.le_of_ble_eq_true rfl)
set_option maxRecDepth 20000 in
theorem i159_17 : ex_ X d 159 17 [v0, v1, v2] [.int x] h Q = if ¬ x = 0 then ex_ X d 159 26 [v0, v1, v2] [] h Q else ex_ X d 159 20 [v0, v1, v2] [] h Q := (R_br (show mx_at 159 17 = some (.ifCond .ne 9, 3) by decide +kernel) rfl rfl).trans mx_ite
set_option maxRecDepth 20000 in
theorem i159_20 : ex_ X d 159 20 [.ref a, v1, v2] [] h Q = ex_ X d 159 21 [.ref a, v1, v2] [.ref a] h Q := ex_nx (show mx_at 159 20 = some (.aload_n 0, 1) by decide +kernel) rfl
set_option maxRecDepth 20000 in
theorem i159_21 : ex_ X d 159 21 [v0, v1, v2] [w0] h Q = ex_ X d 159 22 [v0, v1, v2] [.int 1, w0] h Q := R_iconst (show mx_at 159 21 = some (.iconst 1, 1) by decide +kernel) (by decide)
set_option maxRecDepth 20000 in
theorem i159_22 (hc : co_ h a = some 12) : ex_ X (d + 1) 159 22 [v0, v1, v2] [.int x0, .ref a] h Q = ev_ X d 123 [.ref a, .int x0] h (fun r h' => ex_ X (d + 1) 159 25 [v0, v1, v2] (r.toList ++ []) h' Q) := R_vir (show mx_at 159 22 = some (.invokevirtual 131, 3) by decide +kernel) (mx_clk ow159 cc12_131) (Nat.le_of_ble_eq_true rfl) rfl rfl hc rfl (Nat.le_of_ble_eq_true rfl) (Nat.le_of_ble_eq_true rfl) (by rw [ml123]; exact Nat.le_of_ble_eq_true rfl)
set_option maxRecDepth 20000 in
theorem i159_25 : ex_ X d 159 25 [v0, v1, v2] [.int x] h Q = Q (some (.int x)) h := ex_ret (show mx_at 159 25 = some (.ireturn, 1) by decide +kernel) (mx_retI rt159)
set_option maxRecDepth 20000 in
theorem i159_26 : ex_ X d 159 26 [.ref a, v1, v2] [] h Q = ex_ X d 159 27 [.ref a, v1, v2] [.ref a] h Q := ex_nx (show mx_at 159 26 = some (.aload_n 0, 1) by decide +kernel) rfl
set_option maxRecDepth 20000 in
theorem i159_27 : ex_ X d 159 27 [.ref a, v1, v2] [w0] h Q = ex_ X d 159 28 [.ref a, v1, v2] [.ref a, w0] h Q := ex_nx (show mx_at 159 27 = some (.aload_n 0, 1) by decide +kernel) rfl
set_option maxRecDepth 20000 in
theorem i159_28 : ex_ X d 159 28 [v0, v1, v2] [.ref a, w0] h Q = (gk_ h a 0 [(12, 0)] = true ∧ ex_ X d 159 31 [v0, v1, v2] [gv_ h a 0, w0] h Q) := R_getf (show mx_at 159 28 = some (.getfield 7, 3) by decide +kernel) (mx_fdo ow159 fd120007)
set_option maxRecDepth 20000 in
theorem i159_31 : ex_ X d 159 31 [v0, .int x, v2] [w0, w1] h Q = ex_ X d 159 32 [v0, .int x, v2] [.int x, w0, w1] h Q := ex_nx (show mx_at 159 31 = some (.iload_n 1, 1) by decide +kernel) rfl
set_option maxRecDepth 20000 in
theorem i159_32 : ex_ X d 159 32 [v0, v1, .int x] [w0, w1, w2] h Q = ex_ X d 159 33 [v0, v1, .int x] [.int x, w0, w1, w2] h Q := ex_nx (show mx_at 159 32 = some (.iload_n 2, 1) by decide +kernel) rfl
set_option maxRecDepth 20000 in
theorem i159_33 (hc : co_ h a = some 12) : ex_ X (d + 1) 159 33 [v0, v1, v2] [.int x2, .int x1, .ref a0, .ref a] h Q = ev_ X d 153 [.ref a, .ref a0, .int x1, .int x2] h (fun r h' => ex_ X (d + 1) 159 36 [v0, v1, v2] (r.toList ++ []) h' Q) := R_vir (show mx_at 159 33 = some (.invokevirtual 169, 3) by decide +kernel) (mx_clk ow159 cc12_169) (Nat.le_of_ble_eq_true rfl) rfl rfl hc rfl (Nat.le_of_ble_eq_true rfl) (Nat.le_of_ble_eq_true rfl) (by rw [ml153]; exact Nat.le_of_ble_eq_true rfl)
set_option maxRecDepth 20000 in
theorem i159_36 : ex_ X d 159 36 [v0, v1, v2] [.int x] h Q = if x = 0 then ex_ X d 159 43 [v0, v1, v2] [] h Q else ex_ X d 159 39 [v0, v1, v2] [] h Q := (R_br (show mx_at 159 36 = some (.ifCond .eq 7, 3) by decide +kernel) rfl rfl).trans mx_ite
set_option maxRecDepth 20000 in
theorem i159_39 : ex_ X d 159 39 [v0, v1, v2] [] h Q = ex_ X d 159 40 [v0, v1, v2] [.int 1] h Q := R_iconst (show mx_at 159 39 = some (.iconst 1, 1) by decide +kernel) (by decide)
set_option maxRecDepth 20000 in
theorem i159_40 : ex_ X d 159 40 [v0, v1, v2] [w0] h Q = ex_ X d 159 44 [v0, v1, v2] [w0] h Q := R_to (show mx_at 159 40 = some (.goto 4, 3) by decide +kernel) rfl rfl
set_option maxRecDepth 20000 in
theorem i159_43 : ex_ X d 159 43 [v0, v1, v2] [] h Q = ex_ X d 159 44 [v0, v1, v2] [.int 0] h Q := R_iconst (show mx_at 159 43 = some (.iconst 0, 1) by decide +kernel) (by decide)
set_option maxRecDepth 20000 in
theorem i159_44 : ex_ X d 159 44 [v0, v1, v2] [.int x] h Q = Q (some (.int x)) h := ex_ret (show mx_at 159 44 = some (.ireturn, 1) by decide +kernel) (mx_retI rt159)
theorem i159_e : ev_ X d 159 [.ref a, .int x0, .int x1] h Q = ex_ X d 159 0 [.ref a, .int x0, .int x1] [] h Q := by rw [ev_, ml159]; rfl
-- 160 X12_areRight
set_option maxRecDepth 20000 in
theorem i160_0 : ex_ X d 160 0 [.int x, v1, v2] [] h Q = ex_ X d 160 1 [.int x, v1, v2] [.int x] h Q := ex_nx (show mx_at 160 0 = some (.iload_n 0, 1) by decide +kernel) rfl
set_option maxRecDepth 20000 in
theorem i160_1 : ex_ X d 160 1 [v0, v1, v2] [.int x] h Q = ex_ X d 160 2 [v0, v1, v2] [.long x.toInt64] h Q := ex_nx (show mx_at 160 1 = some (.i2l, 1) by decide +kernel) rfl
set_option maxRecDepth 20000 in
theorem i160_2 : ex_ X d 160 2 [v0, v1, v2] [w0] h Q = ex_ X d 160 3 [v0, v1, v2] [.long 0, w0] h Q := ex_nx (show mx_at 160 2 = some (.lconst 0, 1) by decide +kernel) rfl
set_option maxRecDepth 20000 in
theorem i160_3 : ex_ X d 160 3 [v0, v1, v2] [w0, w1] h Q = ex_ X d 160 6 [v0, v1, v2] [.long 9, w0, w1] h Q := R_ldc2 (show mx_at 160 3 = some (.ldc2_w 193, 3) by decide +kernel) ow160 kl120193
set_option maxRecDepth 20000 in
theorem i160_6 : ex_ X (d + 1) 160 6 [v0, v1, v2] [.long j2, .long j1, .long j0] h Q = ev_ X d 124 [.long j0, .long j1, .long j2] h (fun r h' => ex_ X (d + 1) 160 9 [v0, v1, v2] (r.toList ++ []) h' Q) := R_stat (show mx_at 160 6 = some (.invokestatic 54, 3) by decide +kernel) (mx_clk ow160 cc12_54) (Nat.le_of_ble_eq_true rfl) rfl rfl (Nat.le_of_ble_eq_true rfl) ml124 (Nat.le_of_ble_eq_true rfl)
set_option maxRecDepth 20000 in
theorem i160_9 : ex_ X d 160 9 [v0, v1, v2] [.int x] h Q = if x = 0 then ex_ X d 160 40 [v0, v1, v2] [] h Q else ex_ X d 160 12 [v0, v1, v2] [] h Q := (R_br (show mx_at 160 9 = some (.ifCond .eq 31, 3) by decide +kernel) rfl rfl).trans mx_ite
set_option maxRecDepth 20000 in
theorem i160_12 : ex_ X d 160 12 [v0, .int x, v2] [] h Q = ex_ X d 160 13 [v0, .int x, v2] [.int x] h Q := ex_nx (show mx_at 160 12 = some (.iload_n 1, 1) by decide +kernel) rfl
set_option maxRecDepth 20000 in
theorem i160_13 : ex_ X d 160 13 [v0, v1, v2] [.int x] h Q = ex_ X d 160 14 [v0, v1, v2] [.long x.toInt64] h Q := ex_nx (show mx_at 160 13 = some (.i2l, 1) by decide +kernel) rfl
set_option maxRecDepth 20000 in
theorem i160_14 : ex_ X d 160 14 [v0, v1, v2] [w0] h Q = ex_ X d 160 15 [v0, v1, v2] [.long 0, w0] h Q := ex_nx (show mx_at 160 14 = some (.lconst 0, 1) by decide +kernel) rfl
set_option maxRecDepth 20000 in
theorem i160_15 : ex_ X d 160 15 [v0, v1, v2] [w0, w1] h Q = ex_ X d 160 18 [v0, v1, v2] [.long 999, w0, w1] h Q := R_ldc2 (show mx_at 160 15 = some (.ldc2_w 187, 3) by decide +kernel) ow160 kl120187
set_option maxRecDepth 20000 in
theorem i160_18 : ex_ X (d + 1) 160 18 [v0, v1, v2] [.long j2, .long j1, .long j0] h Q = ev_ X d 124 [.long j0, .long j1, .long j2] h (fun r h' => ex_ X (d + 1) 160 21 [v0, v1, v2] (r.toList ++ []) h' Q) := R_stat (show mx_at 160 18 = some (.invokestatic 54, 3) by decide +kernel) (mx_clk ow160 cc12_54) (Nat.le_of_ble_eq_true rfl) rfl rfl (Nat.le_of_ble_eq_true rfl) ml124 (Nat.le_of_ble_eq_true rfl)
set_option maxRecDepth 20000 in
theorem i160_21 : ex_ X d 160 21 [v0, v1, v2] [.int x] h Q = if x = 0 then ex_ X d 160 40 [v0, v1, v2] [] h Q else ex_ X d 160 24 [v0, v1, v2] [] h Q := (R_br (show mx_at 160 21 = some (.ifCond .eq 19, 3) by decide +kernel) rfl rfl).trans mx_ite
set_option maxRecDepth 20000 in
theorem i160_24 : ex_ X d 160 24 [v0, v1, .int x] [] h Q = ex_ X d 160 25 [v0, v1, .int x] [.int x] h Q := ex_nx (show mx_at 160 24 = some (.iload_n 2, 1) by decide +kernel) rfl
set_option maxRecDepth 20000 in
theorem i160_25 : ex_ X d 160 25 [v0, v1, v2] [.int x] h Q = ex_ X d 160 26 [v0, v1, v2] [.long x.toInt64] h Q := ex_nx (show mx_at 160 25 = some (.i2l, 1) by decide +kernel) rfl
set_option maxRecDepth 20000 in
theorem i160_26 : ex_ X d 160 26 [v0, v1, v2] [w0] h Q = ex_ X d 160 27 [v0, v1, v2] [.long 0, w0] h Q := ex_nx (show mx_at 160 26 = some (.lconst 0, 1) by decide +kernel) rfl
set_option maxRecDepth 20000 in
theorem i160_27 : ex_ X d 160 27 [v0, v1, v2] [w0, w1] h Q = ex_ X d 160 30 [v0, v1, v2] [.long 9, w0, w1] h Q := R_ldc2 (show mx_at 160 27 = some (.ldc2_w 193, 3) by decide +kernel) ow160 kl120193
set_option maxRecDepth 20000 in
theorem i160_30 : ex_ X (d + 1) 160 30 [v0, v1, v2] [.long j2, .long j1, .long j0] h Q = ev_ X d 124 [.long j0, .long j1, .long j2] h (fun r h' => ex_ X (d + 1) 160 33 [v0, v1, v2] (r.toList ++ []) h' Q) := R_stat (show mx_at 160 30 = some (.invokestatic 54, 3) by decide +kernel) (mx_clk ow160 cc12_54) (Nat.le_of_ble_eq_true rfl) rfl rfl (Nat.le_of_ble_eq_true rfl) ml124 (Nat.le_of_ble_eq_true rfl)
set_option maxRecDepth 20000 in
theorem i160_33 : ex_ X d 160 33 [v0, v1, v2] [.int x] h Q = if x = 0 then ex_ X d 160 40 [v0, v1, v2] [] h Q else ex_ X d 160 36 [v0, v1, v2] [] h Q := (R_br (show mx_at 160 33 = some (.ifCond .eq 7, 3) by decide +kernel) rfl rfl).trans mx_ite
set_option maxRecDepth 20000 in
theorem i160_36 : ex_ X d 160 36 [v0, v1, v2] [] h Q = ex_ X d 160 37 [v0, v1, v2] [.int 1] h Q := R_iconst (show mx_at 160 36 = some (.iconst 1, 1) by decide +kernel) (by decide)
set_option maxRecDepth 20000 in
theorem i160_37 : ex_ X d 160 37 [v0, v1, v2] [w0] h Q = ex_ X d 160 41 [v0, v1, v2] [w0] h Q := R_to (show mx_at 160 37 = some (.goto 4, 3) by decide +kernel) rfl rfl
set_option maxRecDepth 20000 in
theorem i160_40 : ex_ X d 160 40 [v0, v1, v2] [] h Q = ex_ X d 160 41 [v0, v1, v2] [.int 0] h Q := R_iconst (show mx_at 160 40 = some (.iconst 0, 1) by decide +kernel) (by decide)
set_option maxRecDepth 20000 in
theorem i160_41 (hx : x = 0 ∨ x = 1) : ex_ X d 160 41 [v0, v1, v2] [.int x] h Q = Q (some (.int x)) h := ex_ret (show mx_at 160 41 = some (.ireturn, 1) by decide +kernel) (mx_retZ hx rt160)
theorem i160_e : ev_ X d 160 [.int x0, .int x1, .int x2] h Q = ex_ X d 160 0 [.int x0, .int x1, .int x2] [] h Q := by rw [ev_, ml160]; rfl
-- 161 X12_comes
set_option maxRecDepth 20000 in
theorem i161_0 : ex_ X d 161 0 [v0, v1, v2, v3, v4] [] h Q = ex_ X d 161 2 [v0, v1, v2, v3, v4] [.int 70] h Q := R_bipush (show mx_at 161 0 = some (.bipush 70, 2) by decide +kernel) (by decide)
set_option maxRecDepth 20000 in
theorem i161_2 : ex_ X d 161 2 [v0, v1, v2, v3, v4] [w0] h Q = ex_ X d 161 3 [v0, v1, v2, v3, v4] [.int 4, w0] h Q := R_iconst (show mx_at 161 2 = some (.iconst 4, 1) by decide +kernel) (by decide)
set_option maxRecDepth 20000 in
theorem i161_3 : ex_ X d 161 3 [.ref a, v1, v2, v3, v4] [w0, w1] h Q = ex_ X d 161 4 [.ref a, v1, v2, v3, v4] [.ref a, w0, w1] h Q := ex_nx (show mx_at 161 3 = some (.aload_n 0, 1) by decide +kernel) rfl
set_option maxRecDepth 20000 in
theorem i161_4 : ex_ X d 161 4 [v0, v1, v2, v3, v4] [.ref a, w0, w1] h Q = (gk_ h a 0 [(12, 0)] = true ∧ ex_ X d 161 7 [v0, v1, v2, v3, v4] [gv_ h a 0, w0, w1] h Q) := R_getf (show mx_at 161 4 = some (.getfield 7, 3) by decide +kernel) (mx_fdo ow161 fd120007)
set_option maxRecDepth 20000 in
theorem i161_7 : ex_ X d 161 7 [v0, v1, v2, v3, v4] [w0, w1, w2] h Q = ex_ X d 161 8 [v0, v1, v2, v3, v4] [.int 2, w0, w1, w2] h Q := R_iconst (show mx_at 161 7 = some (.iconst 2, 1) by decide +kernel) (by decide)
set_option maxRecDepth 20000 in
theorem i161_8 : ex_ X d 161 8 [v0, v1, v2, v3, v4] [.int i, .ref a, w0, w1] h Q = (ik_ h a i = true ∧ ex_ X d 161 9 [v0, v1, v2, v3, v4] [.int (ia_ h a i), w0, w1] h Q) := R_iald (show mx_at 161 8 = some (.iaload, 1) by decide +kernel)
set_option maxRecDepth 20000 in
theorem i161_9 : ex_ X d 161 9 [v0, v1, v2, v3, v4] [.int y, .int x, w0] h Q = ex_ X d 161 10 [v0, v1, v2, v3, v4] [.int (x * y), w0] h Q := ex_nx (show mx_at 161 9 = some (.imul, 1) by decide +kernel) rfl
set_option maxRecDepth 20000 in
theorem i161_10 : ex_ X d 161 10 [v0, v1, v2, v3, v4] [.int y, .int x] h Q = ex_ X d 161 11 [v0, v1, v2, v3, v4] [.int (x + y)] h Q := ex_nx (show mx_at 161 10 = some (.iadd, 1) by decide +kernel) rfl
set_option maxRecDepth 20000 in
theorem i161_11 : ex_ X d 161 11 [v0, v1, v2, v3, v4] [.int x] h Q = (mx_nl v3 = true ∧ ex_ X d 161 13 [v0, v1, v2, v3, .int x] [] h Q) := mx_t1 (R_st (ok := mx_isI) (n := 4) (w := 2) (show mx_at 161 11 = some (.istore 4, 2) by decide +kernel) (fun _ _ => rfl) (Nat.le_of_ble_eq_true rfl)) rfl
set_option maxRecDepth 20000 in
theorem i161_13 : ex_ X d 161 13 [.ref a, v1, v2, v3, v4] [] h Q = ex_ X d 161 14 [.ref a, v1, v2, v3, v4] [.ref a] h Q := ex_nx (show mx_at 161 13 = some (.aload_n 0, 1) by decide +kernel) rfl
set_option maxRecDepth 20000 in
theorem i161_14 : ex_ X d 161 14 [v0, v1, v2, v3, v4] [.ref a] h Q = (gk_ h a 0 [(12, 0)] = true ∧ ex_ X d 161 17 [v0, v1, v2, v3, v4] [gv_ h a 0] h Q) := R_getf (show mx_at 161 14 = some (.getfield 7, 3) by decide +kernel) (mx_fdo ow161 fd120007)
set_option maxRecDepth 20000 in
theorem i161_17 : ex_ X d 161 17 [v0, v1, v2, v3, .int x] [w0] h Q = ex_ X d 161 19 [v0, v1, v2, v3, .int x] [.int x, w0] h Q := ex_nx (show mx_at 161 17 = some (.iload 4, 2) by decide +kernel) rfl
set_option maxRecDepth 20000 in
theorem i161_19 : ex_ X d 161 19 [v0, v1, v2, v3, v4] [w0, w1] h Q = ex_ X d 161 20 [v0, v1, v2, v3, v4] [.int 0, w0, w1] h Q := R_iconst (show mx_at 161 19 = some (.iconst 0, 1) by decide +kernel) (by decide)
set_option maxRecDepth 20000 in
theorem i161_20 : ex_ X d 161 20 [v0, v1, v2, v3, v4] [.int y, .int x, w0] h Q = ex_ X d 161 21 [v0, v1, v2, v3, v4] [.int (x + y), w0] h Q := ex_nx (show mx_at 161 20 = some (.iadd, 1) by decide +kernel) rfl
set_option maxRecDepth 20000 in
theorem i161_21 : ex_ X d 161 21 [v0, .int x, v2, v3, v4] [w0, w1] h Q = ex_ X d 161 22 [v0, .int x, v2, v3, v4] [.int x, w0, w1] h Q := ex_nx (show mx_at 161 21 = some (.iload_n 1, 1) by decide +kernel) rfl
set_option maxRecDepth 20000 in
theorem i161_22 : ex_ X d 161 22 [v0, v1, v2, v3, v4] [.int x, .int i, .ref a] h Q = (ik_ h a i = true ∧ ex_ X d 161 23 [v0, v1, v2, v3, v4] [] (is_ h a i x) Q) := R_iast (show mx_at 161 22 = some (.iastore, 1) by decide +kernel)
set_option maxRecDepth 20000 in
theorem i161_23 : ex_ X d 161 23 [.ref a, v1, v2, v3, v4] [] h Q = ex_ X d 161 24 [.ref a, v1, v2, v3, v4] [.ref a] h Q := ex_nx (show mx_at 161 23 = some (.aload_n 0, 1) by decide +kernel) rfl
set_option maxRecDepth 20000 in
theorem i161_24 : ex_ X d 161 24 [v0, v1, v2, v3, v4] [.ref a] h Q = (gk_ h a 0 [(12, 0)] = true ∧ ex_ X d 161 27 [v0, v1, v2, v3, v4] [gv_ h a 0] h Q) := R_getf (show mx_at 161 24 = some (.getfield 7, 3) by decide +kernel) (mx_fdo ow161 fd120007)
set_option maxRecDepth 20000 in
theorem i161_27 : ex_ X d 161 27 [v0, v1, v2, v3, .int x] [w0] h Q = ex_ X d 161 29 [v0, v1, v2, v3, .int x] [.int x, w0] h Q := ex_nx (show mx_at 161 27 = some (.iload 4, 2) by decide +kernel) rfl
set_option maxRecDepth 20000 in
theorem i161_29 : ex_ X d 161 29 [v0, v1, v2, v3, v4] [w0, w1] h Q = ex_ X d 161 30 [v0, v1, v2, v3, v4] [.int 1, w0, w1] h Q := R_iconst (show mx_at 161 29 = some (.iconst 1, 1) by decide +kernel) (by decide)
set_option maxRecDepth 20000 in
theorem i161_30 : ex_ X d 161 30 [v0, v1, v2, v3, v4] [.int y, .int x, w0] h Q = ex_ X d 161 31 [v0, v1, v2, v3, v4] [.int (x + y), w0] h Q := ex_nx (show mx_at 161 30 = some (.iadd, 1) by decide +kernel) rfl
set_option maxRecDepth 20000 in
theorem i161_31 : ex_ X d 161 31 [v0, v1, .int x, v3, v4] [w0, w1] h Q = ex_ X d 161 32 [v0, v1, .int x, v3, v4] [.int x, w0, w1] h Q := ex_nx (show mx_at 161 31 = some (.iload_n 2, 1) by decide +kernel) rfl
set_option maxRecDepth 20000 in
theorem i161_32 : ex_ X d 161 32 [v0, v1, v2, v3, v4] [.int x, .int i, .ref a] h Q = (ik_ h a i = true ∧ ex_ X d 161 33 [v0, v1, v2, v3, v4] [] (is_ h a i x) Q) := R_iast (show mx_at 161 32 = some (.iastore, 1) by decide +kernel)
set_option maxRecDepth 20000 in
theorem i161_33 : ex_ X d 161 33 [.ref a, v1, v2, v3, v4] [] h Q = ex_ X d 161 34 [.ref a, v1, v2, v3, v4] [.ref a] h Q := ex_nx (show mx_at 161 33 = some (.aload_n 0, 1) by decide +kernel) rfl
set_option maxRecDepth 20000 in
theorem i161_34 : ex_ X d 161 34 [v0, v1, v2, v3, v4] [.ref a] h Q = (gk_ h a 0 [(12, 0)] = true ∧ ex_ X d 161 37 [v0, v1, v2, v3, v4] [gv_ h a 0] h Q) := R_getf (show mx_at 161 34 = some (.getfield 7, 3) by decide +kernel) (mx_fdo ow161 fd120007)
set_option maxRecDepth 20000 in
theorem i161_37 : ex_ X d 161 37 [v0, v1, v2, v3, .int x] [w0] h Q = ex_ X d 161 39 [v0, v1, v2, v3, .int x] [.int x, w0] h Q := ex_nx (show mx_at 161 37 = some (.iload 4, 2) by decide +kernel) rfl
set_option maxRecDepth 20000 in
theorem i161_39 : ex_ X d 161 39 [v0, v1, v2, v3, v4] [w0, w1] h Q = ex_ X d 161 40 [v0, v1, v2, v3, v4] [.int 2, w0, w1] h Q := R_iconst (show mx_at 161 39 = some (.iconst 2, 1) by decide +kernel) (by decide)
set_option maxRecDepth 20000 in
theorem i161_40 : ex_ X d 161 40 [v0, v1, v2, v3, v4] [.int y, .int x, w0] h Q = ex_ X d 161 41 [v0, v1, v2, v3, v4] [.int (x + y), w0] h Q := ex_nx (show mx_at 161 40 = some (.iadd, 1) by decide +kernel) rfl
set_option maxRecDepth 20000 in
theorem i161_41 : ex_ X d 161 41 [v0, v1, v2, .int x, v4] [w0, w1] h Q = ex_ X d 161 42 [v0, v1, v2, .int x, v4] [.int x, w0, w1] h Q := ex_nx (show mx_at 161 41 = some (.iload_n 3, 1) by decide +kernel) rfl
set_option maxRecDepth 20000 in
theorem i161_42 : ex_ X d 161 42 [v0, v1, v2, v3, v4] [.int x, .int i, .ref a] h Q = (ik_ h a i = true ∧ ex_ X d 161 43 [v0, v1, v2, v3, v4] [] (is_ h a i x) Q) := R_iast (show mx_at 161 42 = some (.iastore, 1) by decide +kernel)
set_option maxRecDepth 20000 in
theorem i161_43 : ex_ X d 161 43 [.ref a, v1, v2, v3, v4] [] h Q = ex_ X d 161 44 [.ref a, v1, v2, v3, v4] [.ref a] h Q := ex_nx (show mx_at 161 43 = some (.aload_n 0, 1) by decide +kernel) rfl
set_option maxRecDepth 20000 in
theorem i161_44 : ex_ X d 161 44 [v0, v1, v2, v3, v4] [.ref a] h Q = (gk_ h a 0 [(12, 0)] = true ∧ ex_ X d 161 47 [v0, v1, v2, v3, v4] [gv_ h a 0] h Q) := R_getf (show mx_at 161 44 = some (.getfield 7, 3) by decide +kernel) (mx_fdo ow161 fd120007)
set_option maxRecDepth 20000 in
theorem i161_47 : ex_ X d 161 47 [v0, v1, v2, v3, .int x] [w0] h Q = ex_ X d 161 49 [v0, v1, v2, v3, .int x] [.int x, w0] h Q := ex_nx (show mx_at 161 47 = some (.iload 4, 2) by decide +kernel) rfl
set_option maxRecDepth 20000 in
theorem i161_49 : ex_ X d 161 49 [v0, v1, v2, v3, v4] [w0, w1] h Q = ex_ X d 161 50 [v0, v1, v2, v3, v4] [.int 3, w0, w1] h Q := R_iconst (show mx_at 161 49 = some (.iconst 3, 1) by decide +kernel) (by decide)
set_option maxRecDepth 20000 in
theorem i161_50 : ex_ X d 161 50 [v0, v1, v2, v3, v4] [.int y, .int x, w0] h Q = ex_ X d 161 51 [v0, v1, v2, v3, v4] [.int (x + y), w0] h Q := ex_nx (show mx_at 161 50 = some (.iadd, 1) by decide +kernel) rfl
set_option maxRecDepth 20000 in
theorem i161_51 : ex_ X d 161 51 [v0, v1, v2, v3, v4] [w0, w1] h Q = ex_ X d 161 52 [v0, v1, v2, v3, v4] [.int 0, w0, w1] h Q := R_iconst (show mx_at 161 51 = some (.iconst 0, 1) by decide +kernel) (by decide)
set_option maxRecDepth 20000 in
theorem i161_52 : ex_ X d 161 52 [v0, v1, v2, v3, v4] [.int x, .int i, .ref a] h Q = (ik_ h a i = true ∧ ex_ X d 161 53 [v0, v1, v2, v3, v4] [] (is_ h a i x) Q) := R_iast (show mx_at 161 52 = some (.iastore, 1) by decide +kernel)
set_option maxRecDepth 20000 in
theorem i161_53 : ex_ X d 161 53 [.ref a, v1, v2, v3, v4] [] h Q = ex_ X d 161 54 [.ref a, v1, v2, v3, v4] [.ref a] h Q := ex_nx (show mx_at 161 53 = some (.aload_n 0, 1) by decide +kernel) rfl
set_option maxRecDepth 20000 in
theorem i161_54 : ex_ X d 161 54 [v0, v1, v2, v3, v4] [.ref a] h Q = (gk_ h a 0 [(12, 0)] = true ∧ ex_ X d 161 57 [v0, v1, v2, v3, v4] [gv_ h a 0] h Q) := R_getf (show mx_at 161 54 = some (.getfield 7, 3) by decide +kernel) (mx_fdo ow161 fd120007)
set_option maxRecDepth 20000 in
theorem i161_57 : ex_ X d 161 57 [v0, v1, v2, v3, v4] [w0] h Q = ex_ X d 161 58 [v0, v1, v2, v3, v4] [.int 2, w0] h Q := R_iconst (show mx_at 161 57 = some (.iconst 2, 1) by decide +kernel) (by decide)
set_option maxRecDepth 20000 in
theorem i161_58 : ex_ X d 161 58 [v0, v1, v2, v3, v4] [.int x, .ref a] h Q = ex_ X d 161 59 [v0, v1, v2, v3, v4] [.int x, .ref a, .int x, .ref a] h Q := ex_nx (show mx_at 161 58 = some (.dup2, 1) by decide +kernel) rfl
set_option maxRecDepth 20000 in
theorem i161_59 : ex_ X d 161 59 [v0, v1, v2, v3, v4] [.int i, .ref a, w0, w1] h Q = (ik_ h a i = true ∧ ex_ X d 161 60 [v0, v1, v2, v3, v4] [.int (ia_ h a i), w0, w1] h Q) := R_iald (show mx_at 161 59 = some (.iaload, 1) by decide +kernel)
set_option maxRecDepth 20000 in
theorem i161_60 : ex_ X d 161 60 [v0, v1, v2, v3, v4] [w0, w1, w2] h Q = ex_ X d 161 61 [v0, v1, v2, v3, v4] [.int 1, w0, w1, w2] h Q := R_iconst (show mx_at 161 60 = some (.iconst 1, 1) by decide +kernel) (by decide)
set_option maxRecDepth 20000 in
theorem i161_61 : ex_ X d 161 61 [v0, v1, v2, v3, v4] [.int y, .int x, w0, w1] h Q = ex_ X d 161 62 [v0, v1, v2, v3, v4] [.int (x + y), w0, w1] h Q := ex_nx (show mx_at 161 61 = some (.iadd, 1) by decide +kernel) rfl
set_option maxRecDepth 20000 in
theorem i161_62 : ex_ X d 161 62 [v0, v1, v2, v3, v4] [.int x, .int i, .ref a] h Q = (ik_ h a i = true ∧ ex_ X d 161 63 [v0, v1, v2, v3, v4] [] (is_ h a i x) Q) := R_iast (show mx_at 161 62 = some (.iastore, 1) by decide +kernel)
set_option maxRecDepth 20000 in
theorem i161_63 : ex_ X d 161 63 [v0, v1, v2, v3, v4] [] h Q = Q none h := ex_ret (show mx_at 161 63 = some (.return_, 1) by decide +kernel) (mx_retV rt161)
theorem i161_e : ev_ X d 161 [.ref a, .int x0, .int x1, .int x2] h Q = ex_ X d 161 0 [.ref a, .int x0, .int x1, .int x2, .double 0] [] h Q := by rw [ev_, ml161]; rfl
-- 162 X12_sort
set_option maxRecDepth 20000 in
theorem i162_0 : ex_ X d 162 0 [v0, .int x, v2, v3] [] h Q = ex_ X d 162 1 [v0, .int x, v2, v3] [.int x] h Q := ex_nx (show mx_at 162 0 = some (.iload_n 1, 1) by decide +kernel) rfl
set_option maxRecDepth 20000 in
theorem i162_1 : ex_ X d 162 1 [v0, v1, .int x, v3] [w0] h Q = ex_ X d 162 2 [v0, v1, .int x, v3] [.int x, w0] h Q := ex_nx (show mx_at 162 1 = some (.iload_n 2, 1) by decide +kernel) rfl
set_option maxRecDepth 20000 in
theorem i162_2 : ex_ X d 162 2 [v0, v1, v2, .int x] [w0, w1] h Q = ex_ X d 162 3 [v0, v1, v2, .int x] [.int x, w0, w1] h Q := ex_nx (show mx_at 162 2 = some (.iload_n 3, 1) by decide +kernel) rfl
set_option maxRecDepth 20000 in
theorem i162_3 : ex_ X (d + 1) 162 3 [v0, v1, v2, v3] [.int x2, .int x1, .int x0] h Q = ev_ X d 160 [.int x0, .int x1, .int x2] h (fun r h' => ex_ X (d + 1) 162 6 [v0, v1, v2, v3] (r.toList ++ []) h' Q) := R_stat (show mx_at 162 3 = some (.invokestatic 195, 3) by decide +kernel) (mx_clk ow162 cc12_195) (Nat.le_of_ble_eq_true rfl) rfl rfl (Nat.le_of_ble_eq_true rfl) ml160 (Nat.le_of_ble_eq_true rfl)
set_option maxRecDepth 20000 in
theorem i162_6 : ex_ X d 162 6 [v0, v1, v2, v3] [.int x] h Q = if ¬ x = 0 then ex_ X d 162 15 [v0, v1, v2, v3] [] h Q else ex_ X d 162 9 [v0, v1, v2, v3] [] h Q := (R_br (show mx_at 162 6 = some (.ifCond .ne 9, 3) by decide +kernel) rfl rfl).trans mx_ite
set_option maxRecDepth 20000 in
theorem i162_9 : ex_ X d 162 9 [.ref a, v1, v2, v3] [] h Q = ex_ X d 162 10 [.ref a, v1, v2, v3] [.ref a] h Q := ex_nx (show mx_at 162 9 = some (.aload_n 0, 1) by decide +kernel) rfl
set_option maxRecDepth 20000 in
theorem i162_10 : ex_ X d 162 10 [v0, v1, v2, v3] [w0] h Q = ex_ X d 162 11 [v0, v1, v2, v3] [.int 1, w0] h Q := R_iconst (show mx_at 162 10 = some (.iconst 1, 1) by decide +kernel) (by decide)
set_option maxRecDepth 20000 in
theorem i162_11 (hc : co_ h a = some 12) : ex_ X (d + 1) 162 11 [v0, v1, v2, v3] [.int x0, .ref a] h Q = ev_ X d 123 [.ref a, .int x0] h (fun r h' => ex_ X (d + 1) 162 14 [v0, v1, v2, v3] (r.toList ++ []) h' Q) := R_vir (show mx_at 162 11 = some (.invokevirtual 131, 3) by decide +kernel) (mx_clk ow162 cc12_131) (Nat.le_of_ble_eq_true rfl) rfl rfl hc rfl (Nat.le_of_ble_eq_true rfl) (Nat.le_of_ble_eq_true rfl) (by rw [ml123]; exact Nat.le_of_ble_eq_true rfl)
set_option maxRecDepth 20000 in
theorem i162_14 : ex_ X d 162 14 [v0, v1, v2, v3] [.int x] h Q = Q (some (.int x)) h := ex_ret (show mx_at 162 14 = some (.ireturn, 1) by decide +kernel) (mx_retI rt162)
set_option maxRecDepth 20000 in
theorem i162_15 : ex_ X d 162 15 [.ref a, v1, v2, v3] [] h Q = ex_ X d 162 16 [.ref a, v1, v2, v3] [.ref a] h Q := ex_nx (show mx_at 162 15 = some (.aload_n 0, 1) by decide +kernel) rfl
set_option maxRecDepth 20000 in
theorem i162_16 : ex_ X d 162 16 [v0, v1, v2, v3] [.ref a] h Q = (gk_ h a 0 [(12, 0)] = true ∧ ex_ X d 162 19 [v0, v1, v2, v3] [gv_ h a 0] h Q) := R_getf (show mx_at 162 16 = some (.getfield 7, 3) by decide +kernel) (mx_fdo ow162 fd120007)
set_option maxRecDepth 20000 in
theorem i162_19 : ex_ X d 162 19 [v0, v1, v2, v3] [w0] h Q = ex_ X d 162 20 [v0, v1, v2, v3] [.int 2, w0] h Q := R_iconst (show mx_at 162 19 = some (.iconst 2, 1) by decide +kernel) (by decide)
set_option maxRecDepth 20000 in
theorem i162_20 : ex_ X d 162 20 [v0, v1, v2, v3] [.int i, .ref a] h Q = (ik_ h a i = true ∧ ex_ X d 162 21 [v0, v1, v2, v3] [.int (ia_ h a i)] h Q) := R_iald (show mx_at 162 20 = some (.iaload, 1) by decide +kernel)
set_option maxRecDepth 20000 in
theorem i162_21 : ex_ X d 162 21 [v0, v1, v2, v3] [w0] h Q = ex_ X d 162 23 [v0, v1, v2, v3] [.int 8, w0] h Q := R_bipush (show mx_at 162 21 = some (.bipush 8, 2) by decide +kernel) (by decide)
set_option maxRecDepth 20000 in
theorem i162_23 : ex_ X d 162 23 [v0, v1, v2, v3] [.int y, .int x] h Q = if ¬ x = y then ex_ X d 162 32 [v0, v1, v2, v3] [] h Q else ex_ X d 162 26 [v0, v1, v2, v3] [] h Q := (R_br (show mx_at 162 23 = some (.if_icmp .ne 9, 3) by decide +kernel) rfl rfl).trans mx_ite
set_option maxRecDepth 20000 in
theorem i162_26 : ex_ X d 162 26 [.ref a, v1, v2, v3] [] h Q = ex_ X d 162 27 [.ref a, v1, v2, v3] [.ref a] h Q := ex_nx (show mx_at 162 26 = some (.aload_n 0, 1) by decide +kernel) rfl
set_option maxRecDepth 20000 in
theorem i162_27 : ex_ X d 162 27 [v0, v1, v2, v3] [w0] h Q = ex_ X d 162 28 [v0, v1, v2, v3] [.int 4, w0] h Q := R_iconst (show mx_at 162 27 = some (.iconst 4, 1) by decide +kernel) (by decide)
set_option maxRecDepth 20000 in
theorem i162_28 (hc : co_ h a = some 12) : ex_ X (d + 1) 162 28 [v0, v1, v2, v3] [.int x0, .ref a] h Q = ev_ X d 123 [.ref a, .int x0] h (fun r h' => ex_ X (d + 1) 162 31 [v0, v1, v2, v3] (r.toList ++ []) h' Q) := R_vir (show mx_at 162 28 = some (.invokevirtual 131, 3) by decide +kernel) (mx_clk ow162 cc12_131) (Nat.le_of_ble_eq_true rfl) rfl rfl hc rfl (Nat.le_of_ble_eq_true rfl) (Nat.le_of_ble_eq_true rfl) (by rw [ml123]; exact Nat.le_of_ble_eq_true rfl)
set_option maxRecDepth 20000 in
theorem i162_31 : ex_ X d 162 31 [v0, v1, v2, v3] [.int x] h Q = Q (some (.int x)) h := ex_ret (show mx_at 162 31 = some (.ireturn, 1) by decide +kernel) (mx_retI rt162)
set_option maxRecDepth 20000 in
theorem i162_32 : ex_ X d 162 32 [.ref a, v1, v2, v3] [] h Q = ex_ X d 162 33 [.ref a, v1, v2, v3] [.ref a] h Q := ex_nx (show mx_at 162 32 = some (.aload_n 0, 1) by decide +kernel) rfl
set_option maxRecDepth 20000 in
theorem i162_33 : ex_ X d 162 33 [v0, .int x, v2, v3] [w0] h Q = ex_ X d 162 34 [v0, .int x, v2, v3] [.int x, w0] h Q := ex_nx (show mx_at 162 33 = some (.iload_n 1, 1) by decide +kernel) rfl
set_option maxRecDepth 20000 in
theorem i162_34 : ex_ X d 162 34 [v0, v1, .int x, v3] [w0, w1] h Q = ex_ X d 162 35 [v0, v1, .int x, v3] [.int x, w0, w1] h Q := ex_nx (show mx_at 162 34 = some (.iload_n 2, 1) by decide +kernel) rfl
set_option maxRecDepth 20000 in
theorem i162_35 : ex_ X d 162 35 [v0, v1, v2, .int x] [w0, w1, w2] h Q = ex_ X d 162 36 [v0, v1, v2, .int x] [.int x, w0, w1, w2] h Q := ex_nx (show mx_at 162 35 = some (.iload_n 3, 1) by decide +kernel) rfl
set_option maxRecDepth 20000 in
theorem i162_36 (hc : co_ h a = some 12) : ex_ X (d + 1) 162 36 [v0, v1, v2, v3] [.int x2, .int x1, .int x0, .ref a] h Q = ev_ X d 161 [.ref a, .int x0, .int x1, .int x2] h (fun r h' => ex_ X (d + 1) 162 39 [v0, v1, v2, v3] (r.toList ++ []) h' Q) := R_vir (show mx_at 162 36 = some (.invokevirtual 199, 3) by decide +kernel) (mx_clk ow162 cc12_199) (Nat.le_of_ble_eq_true rfl) rfl rfl hc rfl (Nat.le_of_ble_eq_true rfl) (Nat.le_of_ble_eq_true rfl) (by rw [ml161]; exact Nat.le_of_ble_eq_true rfl)
set_option maxRecDepth 20000 in
theorem i162_39 : ex_ X d 162 39 [.ref a, v1, v2, v3] [] h Q = ex_ X d 162 40 [.ref a, v1, v2, v3] [.ref a] h Q := ex_nx (show mx_at 162 39 = some (.aload_n 0, 1) by decide +kernel) rfl
set_option maxRecDepth 20000 in
theorem i162_40 : ex_ X d 162 40 [v0, v1, v2, v3] [.ref a] h Q = (gk_ h a 0 [(12, 0)] = true ∧ ex_ X d 162 43 [v0, v1, v2, v3] [gv_ h a 0] h Q) := R_getf (show mx_at 162 40 = some (.getfield 7, 3) by decide +kernel) (mx_fdo ow162 fd120007)
set_option maxRecDepth 20000 in
theorem i162_43 : ex_ X d 162 43 [v0, v1, v2, v3] [w0] h Q = ex_ X d 162 44 [v0, v1, v2, v3] [.int 2, w0] h Q := R_iconst (show mx_at 162 43 = some (.iconst 2, 1) by decide +kernel) (by decide)
set_option maxRecDepth 20000 in
theorem i162_44 : ex_ X d 162 44 [v0, v1, v2, v3] [.int i, .ref a] h Q = (ik_ h a i = true ∧ ex_ X d 162 45 [v0, v1, v2, v3] [.int (ia_ h a i)] h Q) := R_iald (show mx_at 162 44 = some (.iaload, 1) by decide +kernel)
set_option maxRecDepth 20000 in
theorem i162_45 : ex_ X d 162 45 [v0, v1, v2, v3] [w0] h Q = ex_ X d 162 46 [v0, v1, v2, v3] [.int 1, w0] h Q := R_iconst (show mx_at 162 45 = some (.iconst 1, 1) by decide +kernel) (by decide)
set_option maxRecDepth 20000 in
theorem i162_46 : ex_ X d 162 46 [v0, v1, v2, v3] [.int y, .int x] h Q = ex_ X d 162 47 [v0, v1, v2, v3] [.int (x - y)] h Q := ex_nx (show mx_at 162 46 = some (.isub, 1) by decide +kernel) rfl
set_option maxRecDepth 20000 in
theorem i162_47 : ex_ X d 162 47 [v0, v1, v2, v3] [.int x] h Q = Q (some (.int x)) h := ex_ret (show mx_at 162 47 = some (.ireturn, 1) by decide +kernel) (mx_retI rt162)
theorem i162_e : ev_ X d 162 [.ref a, .int x0, .int x1, .int x2] h Q = ex_ X d 162 0 [.ref a, .int x0, .int x1, .int x2] [] h Q := by rw [ev_, ml162]; rfl
-- 163 X12_feels
set_option maxRecDepth 20000 in
theorem i163_0 : ex_ X d 163 0 [.ref a, v1] [] h Q = ex_ X d 163 1 [.ref a, v1] [.ref a] h Q := ex_nx (show mx_at 163 0 = some (.aload_n 0, 1) by decide +kernel) rfl
set_option maxRecDepth 20000 in
theorem i163_1 : ex_ X d 163 1 [v0, .int x] [w0] h Q = ex_ X d 163 2 [v0, .int x] [.int x, w0] h Q := ex_nx (show mx_at 163 1 = some (.iload_n 1, 1) by decide +kernel) rfl
set_option maxRecDepth 20000 in
theorem i163_2 : ex_ X d 163 2 [v0, v1] [w0, w1] h Q = ex_ X d 163 3 [v0, v1] [.int 1, w0, w1] h Q := R_iconst (show mx_at 163 2 = some (.iconst 1, 1) by decide +kernel) (by decide)
set_option maxRecDepth 20000 in
theorem i163_3 : ex_ X (d + 1) 163 3 [v0, v1] [.int x2, .int x1, .ref a0] h Q = ev_ X d 130 [.ref a0, .int x1, .int x2] h (fun r h' => ex_ X (d + 1) 163 6 [v0, v1] (r.toList ++ []) h' Q) := R_stat (show mx_at 163 3 = some (.invokestatic 202, 3) by decide +kernel) (mx_clk ow163 cc12_202) (Nat.le_of_ble_eq_true rfl) rfl rfl (Nat.le_of_ble_eq_true rfl) ml130 (Nat.le_of_ble_eq_true rfl)
set_option maxRecDepth 20000 in
theorem i163_6 : ex_ X d 163 6 [.ref a, v1] [w0] h Q = ex_ X d 163 7 [.ref a, v1] [.ref a, w0] h Q := ex_nx (show mx_at 163 6 = some (.aload_n 0, 1) by decide +kernel) rfl
set_option maxRecDepth 20000 in
theorem i163_7 : ex_ X d 163 7 [v0, v1] [w0, w1] h Q = ex_ X d 163 8 [v0, v1] [.int 4, w0, w1] h Q := R_iconst (show mx_at 163 7 = some (.iconst 4, 1) by decide +kernel) (by decide)
set_option maxRecDepth 20000 in
theorem i163_8 : ex_ X d 163 8 [.ref a, v1] [w0, w1, w2] h Q = ex_ X d 163 9 [.ref a, v1] [.ref a, w0, w1, w2] h Q := ex_nx (show mx_at 163 8 = some (.aload_n 0, 1) by decide +kernel) rfl
set_option maxRecDepth 20000 in
theorem i163_9 : ex_ X d 163 9 [v0, v1] [w0, w1, w2, w3] h Q = ex_ X d 163 10 [v0, v1] [.int 3, w0, w1, w2, w3] h Q := R_iconst (show mx_at 163 9 = some (.iconst 3, 1) by decide +kernel) (by decide)
set_option maxRecDepth 20000 in
theorem i163_10 : ex_ X d 163 10 [v0, v1] [.int i, .ref a, w0, w1, w2] h Q = (ik_ h a i = true ∧ ex_ X d 163 11 [v0, v1] [.int (ia_ h a i), w0, w1, w2] h Q) := R_iald (show mx_at 163 10 = some (.iaload, 1) by decide +kernel)
set_option maxRecDepth 20000 in
theorem i163_11 : ex_ X d 163 11 [v0, v1] [.int y, .int x, w0, w1] h Q = ex_ X d 163 12 [v0, v1] [.int (x + y), w0, w1] h Q := ex_nx (show mx_at 163 11 = some (.iadd, 1) by decide +kernel) rfl
set_option maxRecDepth 20000 in
theorem i163_12 : ex_ X d 163 12 [v0, v1] [.int i, .ref a, w0] h Q = (ik_ h a i = true ∧ ex_ X d 163 13 [v0, v1] [.int (ia_ h a i), w0] h Q) := R_iald (show mx_at 163 12 = some (.iaload, 1) by decide +kernel)
set_option maxRecDepth 20000 in
theorem i163_13 : ex_ X d 163 13 [v0, v1] [.int y, .int x] h Q = ex_ X d 163 14 [v0, v1] [.int (x * y)] h Q := ex_nx (show mx_at 163 13 = some (.imul, 1) by decide +kernel) rfl
set_option maxRecDepth 20000 in
theorem i163_14 : ex_ X d 163 14 [v0, v1] [w0] h Q = ex_ X d 163 16 [v0, v1] [.int 10, w0] h Q := R_bipush (show mx_at 163 14 = some (.bipush 10, 2) by decide +kernel) (by decide)
set_option maxRecDepth 20000 in
theorem i163_16 : ex_ X d 163 16 [v0, v1] [.int y, .int x] h Q = (y ≠ 0 ∧ ex_ X d 163 17 [v0, v1] [.int (x / y)] h Q) := R_div (show mx_at 163 16 = some (.idiv, 1) by decide +kernel)
set_option maxRecDepth 20000 in
theorem i163_17 : ex_ X d 163 17 [v0, v1] [.int x] h Q = Q (some (.int x)) h := ex_ret (show mx_at 163 17 = some (.ireturn, 1) by decide +kernel) (mx_retI rt163)
theorem i163_e : ev_ X d 163 [.ref a0, .int x1] h Q = ex_ X d 163 0 [.ref a0, .int x1] [] h Q := by rw [ev_, ml163]; rfl
-- 164 X12_ofSort
set_option maxRecDepth 20000 in
theorem i164_0 : ex_ X d 164 0 [.ref a, v1, v2] [] h Q = ex_ X d 164 1 [.ref a, v1, v2] [.ref a] h Q := ex_nx (show mx_at 164 0 = some (.aload_n 0, 1) by decide +kernel) rfl
set_option maxRecDepth 20000 in
theorem i164_1 : ex_ X d 164 1 [v0, .int x, v2] [w0] h Q = ex_ X d 164 2 [v0, .int x, v2] [.int x, w0] h Q := ex_nx (show mx_at 164 1 = some (.iload_n 1, 1) by decide +kernel) rfl
set_option maxRecDepth 20000 in
theorem i164_2 (hc : co_ h a = some 12) : ex_ X (d + 1) 164 2 [v0, v1, v2] [.int x0, .ref a] h Q = ev_ X d 128 [.ref a, .int x0] h (fun r h' => ex_ X (d + 1) 164 5 [v0, v1, v2] (r.toList ++ []) h' Q) := R_vir (show mx_at 164 2 = some (.invokevirtual 205, 3) by decide +kernel) (mx_clk ow164 cc12_205) (Nat.le_of_ble_eq_true rfl) rfl rfl hc rfl (Nat.le_of_ble_eq_true rfl) (Nat.le_of_ble_eq_true rfl) (by rw [ml128]; exact Nat.le_of_ble_eq_true rfl)
set_option maxRecDepth 20000 in
theorem i164_5 : ex_ X d 164 5 [v0, v1, v2] [.int x] h Q = if x = 0 then ex_ X d 164 20 [v0, v1, v2] [] h Q else ex_ X d 164 8 [v0, v1, v2] [] h Q := (R_br (show mx_at 164 5 = some (.ifCond .eq 15, 3) by decide +kernel) rfl rfl).trans mx_ite
set_option maxRecDepth 20000 in
theorem i164_8 : ex_ X d 164 8 [v0, v1, .int x] [] h Q = ex_ X d 164 9 [v0, v1, .int x] [.int x] h Q := ex_nx (show mx_at 164 8 = some (.iload_n 2, 1) by decide +kernel) rfl
set_option maxRecDepth 20000 in
theorem i164_9 : ex_ X d 164 9 [v0, v1, v2] [.int x] h Q = ex_ X d 164 10 [v0, v1, v2] [.long x.toInt64] h Q := ex_nx (show mx_at 164 9 = some (.i2l, 1) by decide +kernel) rfl
set_option maxRecDepth 20000 in
theorem i164_10 : ex_ X d 164 10 [v0, v1, v2] [w0] h Q = ex_ X d 164 11 [v0, v1, v2] [.long 0, w0] h Q := ex_nx (show mx_at 164 10 = some (.lconst 0, 1) by decide +kernel) rfl
set_option maxRecDepth 20000 in
theorem i164_11 : ex_ X d 164 11 [v0, v1, v2] [w0, w1] h Q = ex_ X d 164 14 [v0, v1, v2] [.long 4, w0, w1] h Q := R_ldc2 (show mx_at 164 11 = some (.ldc2_w 208, 3) by decide +kernel) ow164 kl120208
set_option maxRecDepth 20000 in
theorem i164_14 : ex_ X (d + 1) 164 14 [v0, v1, v2] [.long j2, .long j1, .long j0] h Q = ev_ X d 124 [.long j0, .long j1, .long j2] h (fun r h' => ex_ X (d + 1) 164 17 [v0, v1, v2] (r.toList ++ []) h' Q) := R_stat (show mx_at 164 14 = some (.invokestatic 54, 3) by decide +kernel) (mx_clk ow164 cc12_54) (Nat.le_of_ble_eq_true rfl) rfl rfl (Nat.le_of_ble_eq_true rfl) ml124 (Nat.le_of_ble_eq_true rfl)
set_option maxRecDepth 20000 in
theorem i164_17 : ex_ X d 164 17 [v0, v1, v2] [.int x] h Q = if ¬ x = 0 then ex_ X d 164 26 [v0, v1, v2] [] h Q else ex_ X d 164 20 [v0, v1, v2] [] h Q := (R_br (show mx_at 164 17 = some (.ifCond .ne 9, 3) by decide +kernel) rfl rfl).trans mx_ite
set_option maxRecDepth 20000 in
theorem i164_20 : ex_ X d 164 20 [.ref a, v1, v2] [] h Q = ex_ X d 164 21 [.ref a, v1, v2] [.ref a] h Q := ex_nx (show mx_at 164 20 = some (.aload_n 0, 1) by decide +kernel) rfl
set_option maxRecDepth 20000 in
theorem i164_21 : ex_ X d 164 21 [v0, v1, v2] [w0] h Q = ex_ X d 164 22 [v0, v1, v2] [.int 1, w0] h Q := R_iconst (show mx_at 164 21 = some (.iconst 1, 1) by decide +kernel) (by decide)
set_option maxRecDepth 20000 in
theorem i164_22 (hc : co_ h a = some 12) : ex_ X (d + 1) 164 22 [v0, v1, v2] [.int x0, .ref a] h Q = ev_ X d 123 [.ref a, .int x0] h (fun r h' => ex_ X (d + 1) 164 25 [v0, v1, v2] (r.toList ++ []) h' Q) := R_vir (show mx_at 164 22 = some (.invokevirtual 131, 3) by decide +kernel) (mx_clk ow164 cc12_131) (Nat.le_of_ble_eq_true rfl) rfl rfl hc rfl (Nat.le_of_ble_eq_true rfl) (Nat.le_of_ble_eq_true rfl) (by rw [ml123]; exact Nat.le_of_ble_eq_true rfl)
set_option maxRecDepth 20000 in
theorem i164_25 : ex_ X d 164 25 [v0, v1, v2] [.int x] h Q = Q (some (.int x)) h := ex_ret (show mx_at 164 25 = some (.ireturn, 1) by decide +kernel) (mx_retI rt164)
set_option maxRecDepth 20000 in
theorem i164_26 : ex_ X d 164 26 [v0, v1, .int x] [] h Q = ex_ X d 164 27 [v0, v1, .int x] [.int x] h Q := ex_nx (show mx_at 164 26 = some (.iload_n 2, 1) by decide +kernel) rfl
set_option maxRecDepth 20000 in
theorem i164_27 : ex_ X d 164 27 [v0, v1, v2] [w0] h Q = ex_ X d 164 28 [v0, v1, v2] [.int 4, w0] h Q := R_iconst (show mx_at 164 27 = some (.iconst 4, 1) by decide +kernel) (by decide)
set_option maxRecDepth 20000 in
theorem i164_28 : ex_ X d 164 28 [v0, v1, v2] [.int y, .int x] h Q = if ¬ x = y then ex_ X d 164 42 [v0, v1, v2] [] h Q else ex_ X d 164 31 [v0, v1, v2] [] h Q := (R_br (show mx_at 164 28 = some (.if_icmp .ne 14, 3) by decide +kernel) rfl rfl).trans mx_ite
set_option maxRecDepth 20000 in
theorem i164_31 : ex_ X d 164 31 [.ref a, v1, v2] [] h Q = ex_ X d 164 32 [.ref a, v1, v2] [.ref a] h Q := ex_nx (show mx_at 164 31 = some (.aload_n 0, 1) by decide +kernel) rfl
set_option maxRecDepth 20000 in
theorem i164_32 : ex_ X d 164 32 [v0, v1, v2] [.ref a] h Q = (gk_ h a 0 [(12, 0)] = true ∧ ex_ X d 164 35 [v0, v1, v2] [gv_ h a 0] h Q) := R_getf (show mx_at 164 32 = some (.getfield 7, 3) by decide +kernel) (mx_fdo ow164 fd120007)
set_option maxRecDepth 20000 in
theorem i164_35 : ex_ X d 164 35 [v0, .int x, v2] [w0] h Q = ex_ X d 164 36 [v0, .int x, v2] [.int x, w0] h Q := ex_nx (show mx_at 164 35 = some (.iload_n 1, 1) by decide +kernel) rfl
set_option maxRecDepth 20000 in
theorem i164_36 : ex_ X (d + 1) 164 36 [v0, v1, v2] [.int x1, .ref a0] h Q = ev_ X d 163 [.ref a0, .int x1] h (fun r h' => ex_ X (d + 1) 164 39 [v0, v1, v2] (r.toList ++ []) h' Q) := R_stat (show mx_at 164 36 = some (.invokestatic 210, 3) by decide +kernel) (mx_clk ow164 cc12_210) (Nat.le_of_ble_eq_true rfl) rfl rfl (Nat.le_of_ble_eq_true rfl) ml163 (Nat.le_of_ble_eq_true rfl)
set_option maxRecDepth 20000 in
theorem i164_39 : ex_ X d 164 39 [v0, v1, v2] [w0] h Q = ex_ X d 164 51 [v0, v1, v2] [w0] h Q := R_to (show mx_at 164 39 = some (.goto 12, 3) by decide +kernel) rfl rfl
set_option maxRecDepth 20000 in
theorem i164_42 : ex_ X d 164 42 [.ref a, v1, v2] [] h Q = ex_ X d 164 43 [.ref a, v1, v2] [.ref a] h Q := ex_nx (show mx_at 164 42 = some (.aload_n 0, 1) by decide +kernel) rfl
set_option maxRecDepth 20000 in
theorem i164_43 : ex_ X d 164 43 [v0, v1, v2] [.ref a] h Q = (gk_ h a 0 [(12, 0)] = true ∧ ex_ X d 164 46 [v0, v1, v2] [gv_ h a 0] h Q) := R_getf (show mx_at 164 43 = some (.getfield 7, 3) by decide +kernel) (mx_fdo ow164 fd120007)
set_option maxRecDepth 20000 in
theorem i164_46 : ex_ X d 164 46 [v0, .int x, v2] [w0] h Q = ex_ X d 164 47 [v0, .int x, v2] [.int x, w0] h Q := ex_nx (show mx_at 164 46 = some (.iload_n 1, 1) by decide +kernel) rfl
set_option maxRecDepth 20000 in
theorem i164_47 : ex_ X d 164 47 [v0, v1, .int x] [w0, w1] h Q = ex_ X d 164 48 [v0, v1, .int x] [.int x, w0, w1] h Q := ex_nx (show mx_at 164 47 = some (.iload_n 2, 1) by decide +kernel) rfl
set_option maxRecDepth 20000 in
theorem i164_48 : ex_ X (d + 1) 164 48 [v0, v1, v2] [.int x2, .int x1, .ref a0] h Q = ev_ X d 130 [.ref a0, .int x1, .int x2] h (fun r h' => ex_ X (d + 1) 164 51 [v0, v1, v2] (r.toList ++ []) h' Q) := R_stat (show mx_at 164 48 = some (.invokestatic 202, 3) by decide +kernel) (mx_clk ow164 cc12_202) (Nat.le_of_ble_eq_true rfl) rfl rfl (Nat.le_of_ble_eq_true rfl) ml130 (Nat.le_of_ble_eq_true rfl)
set_option maxRecDepth 20000 in
theorem i164_51 : ex_ X d 164 51 [v0, v1, v2] [.int x] h Q = Q (some (.int x)) h := ex_ret (show mx_at 164 51 = some (.ireturn, 1) by decide +kernel) (mx_retI rt164)
theorem i164_e : ev_ X d 164 [.ref a, .int x0, .int x1] h Q = ex_ X d 164 0 [.ref a, .int x0, .int x1] [] h Q := by rw [ev_, ml164]; rfl
-- 165 X12_sorts
set_option maxRecDepth 20000 in
theorem i165_0 : ex_ X d 165 0 [v0, .int x, v2, v3] [] h Q = ex_ X d 165 1 [v0, .int x, v2, v3] [.int x] h Q := ex_nx (show mx_at 165 0 = some (.iload_n 1, 1) by decide +kernel) rfl
set_option maxRecDepth 20000 in
theorem i165_1 : ex_ X (d + 1) 165 1 [v0, v1, v2, v3] [.int x0] h Q = ev_ X d 198 [.int x0] h (fun r h' => ex_ X (d + 1) 165 4 [v0, v1, v2, v3] (r.toList ++ []) h' Q) := R_stat (show mx_at 165 1 = some (.invokestatic 213, 3) by decide +kernel) (mx_clk ow165 cc12_213) (Nat.le_of_ble_eq_true rfl) rfl rfl (Nat.le_of_ble_eq_true rfl) ml198 (Nat.le_of_ble_eq_true rfl)
set_option maxRecDepth 20000 in
theorem i165_4 : ex_ X d 165 4 [v0, v1, v2, v3] [.int x] h Q = if ¬ x = 0 then ex_ X d 165 13 [v0, v1, v2, v3] [] h Q else ex_ X d 165 7 [v0, v1, v2, v3] [] h Q := (R_br (show mx_at 165 4 = some (.ifCond .ne 9, 3) by decide +kernel) rfl rfl).trans mx_ite
set_option maxRecDepth 20000 in
theorem i165_7 : ex_ X d 165 7 [.ref a, v1, v2, v3] [] h Q = ex_ X d 165 8 [.ref a, v1, v2, v3] [.ref a] h Q := ex_nx (show mx_at 165 7 = some (.aload_n 0, 1) by decide +kernel) rfl
set_option maxRecDepth 20000 in
theorem i165_8 : ex_ X d 165 8 [v0, v1, v2, v3] [w0] h Q = ex_ X d 165 9 [v0, v1, v2, v3] [.int 1, w0] h Q := R_iconst (show mx_at 165 8 = some (.iconst 1, 1) by decide +kernel) (by decide)
set_option maxRecDepth 20000 in
theorem i165_9 (hc : co_ h a = some 12) : ex_ X (d + 1) 165 9 [v0, v1, v2, v3] [.int x0, .ref a] h Q = ev_ X d 123 [.ref a, .int x0] h (fun r h' => ex_ X (d + 1) 165 12 [v0, v1, v2, v3] (r.toList ++ []) h' Q) := R_vir (show mx_at 165 9 = some (.invokevirtual 131, 3) by decide +kernel) (mx_clk ow165 cc12_131) (Nat.le_of_ble_eq_true rfl) rfl rfl hc rfl (Nat.le_of_ble_eq_true rfl) (Nat.le_of_ble_eq_true rfl) (by rw [ml123]; exact Nat.le_of_ble_eq_true rfl)
set_option maxRecDepth 20000 in
theorem i165_12 : ex_ X d 165 12 [v0, v1, v2, v3] [.int x] h Q = Q (some (.int x)) h := ex_ret (show mx_at 165 12 = some (.ireturn, 1) by decide +kernel) (mx_retI rt165)
set_option maxRecDepth 20000 in
theorem i165_13 : ex_ X d 165 13 [.ref a, v1, v2, v3] [] h Q = ex_ X d 165 14 [.ref a, v1, v2, v3] [.ref a] h Q := ex_nx (show mx_at 165 13 = some (.aload_n 0, 1) by decide +kernel) rfl
set_option maxRecDepth 20000 in
theorem i165_14 : ex_ X d 165 14 [v0, v1, v2, v3] [.ref a] h Q = (gk_ h a 20 [(12, 0)] = true ∧ ex_ X d 165 17 [v0, v1, v2, v3] [gv_ h a 20] h Q) := R_getf (show mx_at 165 14 = some (.getfield 41, 3) by decide +kernel) (mx_fdo ow165 fd120041)
set_option maxRecDepth 20000 in
theorem i165_17 : ex_ X d 165 17 [v0, .int x, v2, v3] [w0] h Q = ex_ X d 165 18 [v0, .int x, v2, v3] [.int x, w0] h Q := ex_nx (show mx_at 165 17 = some (.iload_n 1, 1) by decide +kernel) rfl
set_option maxRecDepth 20000 in
theorem i165_18 : ex_ X d 165 18 [v0, v1, v2, v3] [.int i, .ref a] h Q = (ik_ h a i = true ∧ ex_ X d 165 19 [v0, v1, v2, v3] [.int (ia_ h a i)] h Q) := R_iald (show mx_at 165 18 = some (.iaload, 1) by decide +kernel)
set_option maxRecDepth 20000 in
theorem i165_19 : ex_ X d 165 19 [v0, v1, v2, v3] [.int x] h Q = if ¬ x = 0 then ex_ X d 165 28 [v0, v1, v2, v3] [] h Q else ex_ X d 165 22 [v0, v1, v2, v3] [] h Q := (R_br (show mx_at 165 19 = some (.ifCond .ne 9, 3) by decide +kernel) rfl rfl).trans mx_ite
set_option maxRecDepth 20000 in
theorem i165_22 : ex_ X d 165 22 [.ref a, v1, v2, v3] [] h Q = ex_ X d 165 23 [.ref a, v1, v2, v3] [.ref a] h Q := ex_nx (show mx_at 165 22 = some (.aload_n 0, 1) by decide +kernel) rfl
set_option maxRecDepth 20000 in
theorem i165_23 : ex_ X d 165 23 [v0, v1, v2, v3] [w0] h Q = ex_ X d 165 24 [v0, v1, v2, v3] [.int 2, w0] h Q := R_iconst (show mx_at 165 23 = some (.iconst 2, 1) by decide +kernel) (by decide)
set_option maxRecDepth 20000 in
theorem i165_24 (hc : co_ h a = some 12) : ex_ X (d + 1) 165 24 [v0, v1, v2, v3] [.int x0, .ref a] h Q = ev_ X d 123 [.ref a, .int x0] h (fun r h' => ex_ X (d + 1) 165 27 [v0, v1, v2, v3] (r.toList ++ []) h' Q) := R_vir (show mx_at 165 24 = some (.invokevirtual 131, 3) by decide +kernel) (mx_clk ow165 cc12_131) (Nat.le_of_ble_eq_true rfl) rfl rfl hc rfl (Nat.le_of_ble_eq_true rfl) (Nat.le_of_ble_eq_true rfl) (by rw [ml123]; exact Nat.le_of_ble_eq_true rfl)
set_option maxRecDepth 20000 in
theorem i165_27 : ex_ X d 165 27 [v0, v1, v2, v3] [.int x] h Q = Q (some (.int x)) h := ex_ret (show mx_at 165 27 = some (.ireturn, 1) by decide +kernel) (mx_retI rt165)
set_option maxRecDepth 20000 in
theorem i165_28 : ex_ X d 165 28 [v0, v1, v2, v3] [] h Q = ex_ X d 165 29 [v0, v1, v2, v3] [.int 0] h Q := R_iconst (show mx_at 165 28 = some (.iconst 0, 1) by decide +kernel) (by decide)
set_option maxRecDepth 20000 in
theorem i165_29 : ex_ X d 165 29 [v0, v1, v2, v3] [.int x] h Q = (mx_nl v1 = true ∧ ex_ X d 165 30 [v0, v1, .int x, v3] [] h Q) := mx_t1 (R_st (ok := mx_isI) (n := 2) (w := 1) (show mx_at 165 29 = some (.istore_n 2, 1) by decide +kernel) (fun _ _ => rfl) (Nat.le_of_ble_eq_true rfl)) rfl
set_option maxRecDepth 20000 in
theorem i165_30 : ex_ X d 165 30 [v0, v1, v2, v3] [] h Q = ex_ X d 165 32 [v0, v1, v2, v3] [.int 40] h Q := R_bipush (show mx_at 165 30 = some (.bipush 40, 2) by decide +kernel) (by decide)
set_option maxRecDepth 20000 in
theorem i165_32 : ex_ X d 165 32 [v0, .int x, v2, v3] [w0] h Q = ex_ X d 165 33 [v0, .int x, v2, v3] [.int x, w0] h Q := ex_nx (show mx_at 165 32 = some (.iload_n 1, 1) by decide +kernel) rfl
set_option maxRecDepth 20000 in
theorem i165_33 : ex_ X d 165 33 [v0, v1, v2, v3] [.int y, .int x] h Q = ex_ X d 165 34 [v0, v1, v2, v3] [.int (x * y)] h Q := ex_nx (show mx_at 165 33 = some (.imul, 1) by decide +kernel) rfl
set_option maxRecDepth 20000 in
theorem i165_34 : ex_ X d 165 34 [v0, v1, v2, v3] [.int x] h Q = (mx_nl v2 = true ∧ ex_ X d 165 35 [v0, v1, v2, .int x] [] h Q) := mx_t1 (R_st (ok := mx_isI) (n := 3) (w := 1) (show mx_at 165 34 = some (.istore_n 3, 1) by decide +kernel) (fun _ _ => rfl) (Nat.le_of_ble_eq_true rfl)) rfl
set_option maxRecDepth 20000 in
theorem i165_35 : ex_ X d 165 35 [v0, v1, v2, v3] [] h Q = ex_ X d 165 36 [v0, v1, v2, v3] [.int 3] h Q := R_iconst (show mx_at 165 35 = some (.iconst 3, 1) by decide +kernel) (by decide)
set_option maxRecDepth 20000 in
theorem i165_36 : ex_ X d 165 36 [v0, v1, .int x, v3] [w0] h Q = ex_ X d 165 37 [v0, v1, .int x, v3] [.int x, w0] h Q := ex_nx (show mx_at 165 36 = some (.iload_n 2, 1) by decide +kernel) rfl
set_option maxRecDepth 20000 in
theorem i165_37 : ex_ X d 165 37 [v0, v1, v2, v3] [.int y, .int x] h Q = ex_ X d 165 38 [v0, v1, v2, v3] [.int (x * y)] h Q := ex_nx (show mx_at 165 37 = some (.imul, 1) by decide +kernel) rfl
set_option maxRecDepth 20000 in
theorem i165_38 : ex_ X d 165 38 [v0, v1, v2, v3] [w0] h Q = ex_ X d 165 39 [v0, v1, v2, v3] [.int 3, w0] h Q := R_iconst (show mx_at 165 38 = some (.iconst 3, 1) by decide +kernel) (by decide)
set_option maxRecDepth 20000 in
theorem i165_39 : ex_ X d 165 39 [v0, v1, v2, v3] [.int y, .int x] h Q = ex_ X d 165 40 [v0, v1, v2, v3] [.int (x + y)] h Q := ex_nx (show mx_at 165 39 = some (.iadd, 1) by decide +kernel) rfl
set_option maxRecDepth 20000 in
theorem i165_40 : ex_ X d 165 40 [.ref a, v1, v2, v3] [w0] h Q = ex_ X d 165 41 [.ref a, v1, v2, v3] [.ref a, w0] h Q := ex_nx (show mx_at 165 40 = some (.aload_n 0, 1) by decide +kernel) rfl
set_option maxRecDepth 20000 in
theorem i165_41 : ex_ X d 165 41 [v0, v1, v2, v3] [.ref a, w0] h Q = (gk_ h a 21 [(12, 0)] = true ∧ ex_ X d 165 44 [v0, v1, v2, v3] [gv_ h a 21, w0] h Q) := R_getf (show mx_at 165 41 = some (.getfield 44, 3) by decide +kernel) (mx_fdo ow165 fd120044)
set_option maxRecDepth 20000 in
theorem i165_44 : ex_ X d 165 44 [v0, .int x, v2, v3] [w0, w1] h Q = ex_ X d 165 45 [v0, .int x, v2, v3] [.int x, w0, w1] h Q := ex_nx (show mx_at 165 44 = some (.iload_n 1, 1) by decide +kernel) rfl
set_option maxRecDepth 20000 in
theorem i165_45 : ex_ X d 165 45 [v0, v1, v2, v3] [.int i, .ref a, w0] h Q = (ik_ h a i = true ∧ ex_ X d 165 46 [v0, v1, v2, v3] [.int (ia_ h a i), w0] h Q) := R_iald (show mx_at 165 45 = some (.iaload, 1) by decide +kernel)
set_option maxRecDepth 20000 in
theorem i165_46 : ex_ X d 165 46 [v0, v1, v2, v3] [.int y, .int x] h Q = if y < x then ex_ X d 165 123 [v0, v1, v2, v3] [] h Q else ex_ X d 165 49 [v0, v1, v2, v3] [] h Q := (R_br (show mx_at 165 46 = some (.if_icmp .gt 77, 3) by decide +kernel) rfl rfl).trans mx_ite
set_option maxRecDepth 20000 in
theorem i165_49 : ex_ X d 165 49 [.ref a, v1, v2, v3] [] h Q = ex_ X d 165 50 [.ref a, v1, v2, v3] [.ref a] h Q := ex_nx (show mx_at 165 49 = some (.aload_n 0, 1) by decide +kernel) rfl
set_option maxRecDepth 20000 in
theorem i165_50 : ex_ X d 165 50 [v0, v1, v2, v3] [.ref a] h Q = (gk_ h a 0 [(12, 0)] = true ∧ ex_ X d 165 53 [v0, v1, v2, v3] [gv_ h a 0] h Q) := R_getf (show mx_at 165 50 = some (.getfield 7, 3) by decide +kernel) (mx_fdo ow165 fd120007)
set_option maxRecDepth 20000 in
theorem i165_53 : ex_ X d 165 53 [v0, v1, v2, v3] [w0] h Q = ex_ X d 165 54 [v0, v1, v2, v3] [.int 2, w0] h Q := R_iconst (show mx_at 165 53 = some (.iconst 2, 1) by decide +kernel) (by decide)
set_option maxRecDepth 20000 in
theorem i165_54 : ex_ X d 165 54 [v0, v1, v2, v3] [.int i, .ref a] h Q = (ik_ h a i = true ∧ ex_ X d 165 55 [v0, v1, v2, v3] [.int (ia_ h a i)] h Q) := R_iald (show mx_at 165 54 = some (.iaload, 1) by decide +kernel)
set_option maxRecDepth 20000 in
theorem i165_55 : ex_ X d 165 55 [v0, v1, v2, v3] [w0] h Q = ex_ X d 165 57 [v0, v1, v2, v3] [.int 8, w0] h Q := R_bipush (show mx_at 165 55 = some (.bipush 8, 2) by decide +kernel) (by decide)
set_option maxRecDepth 20000 in
theorem i165_57 : ex_ X d 165 57 [v0, v1, v2, v3] [.int y, .int x] h Q = if y ≤ x then ex_ X d 165 123 [v0, v1, v2, v3] [] h Q else ex_ X d 165 60 [v0, v1, v2, v3] [] h Q := (R_br (show mx_at 165 57 = some (.if_icmp .ge 66, 3) by decide +kernel) rfl rfl).trans mx_ite
set_option maxRecDepth 20000 in
theorem i165_60 : ex_ X d 165 60 [.ref a, v1, v2, v3] [] h Q = ex_ X d 165 61 [.ref a, v1, v2, v3] [.ref a] h Q := ex_nx (show mx_at 165 60 = some (.aload_n 0, 1) by decide +kernel) rfl
set_option maxRecDepth 20000 in
theorem i165_61 : ex_ X d 165 61 [v0, v1, v2, v3] [.ref a] h Q = (gk_ h a 22 [(12, 0)] = true ∧ ex_ X d 165 64 [v0, v1, v2, v3] [gv_ h a 22] h Q) := R_getf (show mx_at 165 61 = some (.getfield 47, 3) by decide +kernel) (mx_fdo ow165 fd120047)
set_option maxRecDepth 20000 in
theorem i165_64 : ex_ X d 165 64 [v0, v1, v2, .int x] [w0] h Q = ex_ X d 165 65 [v0, v1, v2, .int x] [.int x, w0] h Q := ex_nx (show mx_at 165 64 = some (.iload_n 3, 1) by decide +kernel) rfl
set_option maxRecDepth 20000 in
theorem i165_65 : ex_ X d 165 65 [v0, v1, v2, v3] [.int i, .ref a] h Q = (ik_ h a i = true ∧ ex_ X d 165 66 [v0, v1, v2, v3] [.int (ia_ h a i)] h Q) := R_iald (show mx_at 165 65 = some (.iaload, 1) by decide +kernel)
set_option maxRecDepth 20000 in
theorem i165_66 : ex_ X d 165 66 [.ref a, v1, v2, v3] [w0] h Q = ex_ X d 165 67 [.ref a, v1, v2, v3] [.ref a, w0] h Q := ex_nx (show mx_at 165 66 = some (.aload_n 0, 1) by decide +kernel) rfl
set_option maxRecDepth 20000 in
theorem i165_67 : ex_ X d 165 67 [v0, v1, v2, v3] [.ref a, w0] h Q = (gk_ h a 22 [(12, 0)] = true ∧ ex_ X d 165 70 [v0, v1, v2, v3] [gv_ h a 22, w0] h Q) := R_getf (show mx_at 165 67 = some (.getfield 47, 3) by decide +kernel) (mx_fdo ow165 fd120047)
set_option maxRecDepth 20000 in
theorem i165_70 : ex_ X d 165 70 [v0, v1, v2, .int x] [w0, w1] h Q = ex_ X d 165 71 [v0, v1, v2, .int x] [.int x, w0, w1] h Q := ex_nx (show mx_at 165 70 = some (.iload_n 3, 1) by decide +kernel) rfl
set_option maxRecDepth 20000 in
theorem i165_71 : ex_ X d 165 71 [v0, v1, v2, v3] [w0, w1, w2] h Q = ex_ X d 165 72 [v0, v1, v2, v3] [.int 1, w0, w1, w2] h Q := R_iconst (show mx_at 165 71 = some (.iconst 1, 1) by decide +kernel) (by decide)
set_option maxRecDepth 20000 in
theorem i165_72 : ex_ X d 165 72 [v0, v1, v2, v3] [.int y, .int x, w0, w1] h Q = ex_ X d 165 73 [v0, v1, v2, v3] [.int (x + y), w0, w1] h Q := ex_nx (show mx_at 165 72 = some (.iadd, 1) by decide +kernel) rfl
set_option maxRecDepth 20000 in
theorem i165_73 : ex_ X d 165 73 [v0, v1, v2, v3] [.int i, .ref a, w0] h Q = (ik_ h a i = true ∧ ex_ X d 165 74 [v0, v1, v2, v3] [.int (ia_ h a i), w0] h Q) := R_iald (show mx_at 165 73 = some (.iaload, 1) by decide +kernel)
set_option maxRecDepth 20000 in
theorem i165_74 : ex_ X d 165 74 [.ref a, v1, v2, v3] [w0, w1] h Q = ex_ X d 165 75 [.ref a, v1, v2, v3] [.ref a, w0, w1] h Q := ex_nx (show mx_at 165 74 = some (.aload_n 0, 1) by decide +kernel) rfl
set_option maxRecDepth 20000 in
theorem i165_75 : ex_ X d 165 75 [v0, v1, v2, v3] [.ref a, w0, w1] h Q = (gk_ h a 22 [(12, 0)] = true ∧ ex_ X d 165 78 [v0, v1, v2, v3] [gv_ h a 22, w0, w1] h Q) := R_getf (show mx_at 165 75 = some (.getfield 47, 3) by decide +kernel) (mx_fdo ow165 fd120047)
set_option maxRecDepth 20000 in
theorem i165_78 : ex_ X d 165 78 [v0, v1, v2, .int x] [w0, w1, w2] h Q = ex_ X d 165 79 [v0, v1, v2, .int x] [.int x, w0, w1, w2] h Q := ex_nx (show mx_at 165 78 = some (.iload_n 3, 1) by decide +kernel) rfl
set_option maxRecDepth 20000 in
theorem i165_79 : ex_ X d 165 79 [v0, v1, v2, v3] [w0, w1, w2, w3] h Q = ex_ X d 165 80 [v0, v1, v2, v3] [.int 2, w0, w1, w2, w3] h Q := R_iconst (show mx_at 165 79 = some (.iconst 2, 1) by decide +kernel) (by decide)
set_option maxRecDepth 20000 in
theorem i165_80 : ex_ X d 165 80 [v0, v1, v2, v3] [.int y, .int x, w0, w1, w2] h Q = ex_ X d 165 81 [v0, v1, v2, v3] [.int (x + y), w0, w1, w2] h Q := ex_nx (show mx_at 165 80 = some (.iadd, 1) by decide +kernel) rfl
set_option maxRecDepth 20000 in
theorem i165_81 : ex_ X d 165 81 [v0, v1, v2, v3] [.int i, .ref a, w0, w1] h Q = (ik_ h a i = true ∧ ex_ X d 165 82 [v0, v1, v2, v3] [.int (ia_ h a i), w0, w1] h Q) := R_iald (show mx_at 165 81 = some (.iaload, 1) by decide +kernel)
set_option maxRecDepth 20000 in
theorem i165_82 : ex_ X (d + 1) 165 82 [v0, v1, v2, v3] [.int x2, .int x1, .int x0] h Q = ev_ X d 160 [.int x0, .int x1, .int x2] h (fun r h' => ex_ X (d + 1) 165 85 [v0, v1, v2, v3] (r.toList ++ []) h' Q) := R_stat (show mx_at 165 82 = some (.invokestatic 195, 3) by decide +kernel) (mx_clk ow165 cc12_195) (Nat.le_of_ble_eq_true rfl) rfl rfl (Nat.le_of_ble_eq_true rfl) ml160 (Nat.le_of_ble_eq_true rfl)
set_option maxRecDepth 20000 in
theorem i165_85 : ex_ X d 165 85 [v0, v1, v2, v3] [.int x] h Q = if x = 0 then ex_ X d 165 123 [v0, v1, v2, v3] [] h Q else ex_ X d 165 88 [v0, v1, v2, v3] [] h Q := (R_br (show mx_at 165 85 = some (.ifCond .eq 38, 3) by decide +kernel) rfl rfl).trans mx_ite
set_option maxRecDepth 20000 in
theorem i165_88 : ex_ X d 165 88 [.ref a, v1, v2, v3] [] h Q = ex_ X d 165 89 [.ref a, v1, v2, v3] [.ref a] h Q := ex_nx (show mx_at 165 88 = some (.aload_n 0, 1) by decide +kernel) rfl
set_option maxRecDepth 20000 in
theorem i165_89 : ex_ X d 165 89 [.ref a, v1, v2, v3] [w0] h Q = ex_ X d 165 90 [.ref a, v1, v2, v3] [.ref a, w0] h Q := ex_nx (show mx_at 165 89 = some (.aload_n 0, 1) by decide +kernel) rfl
set_option maxRecDepth 20000 in
theorem i165_90 : ex_ X d 165 90 [v0, v1, v2, v3] [.ref a, w0] h Q = (gk_ h a 22 [(12, 0)] = true ∧ ex_ X d 165 93 [v0, v1, v2, v3] [gv_ h a 22, w0] h Q) := R_getf (show mx_at 165 90 = some (.getfield 47, 3) by decide +kernel) (mx_fdo ow165 fd120047)
set_option maxRecDepth 20000 in
theorem i165_93 : ex_ X d 165 93 [v0, v1, v2, .int x] [w0, w1] h Q = ex_ X d 165 94 [v0, v1, v2, .int x] [.int x, w0, w1] h Q := ex_nx (show mx_at 165 93 = some (.iload_n 3, 1) by decide +kernel) rfl
set_option maxRecDepth 20000 in
theorem i165_94 : ex_ X d 165 94 [v0, v1, v2, v3] [.int i, .ref a, w0] h Q = (ik_ h a i = true ∧ ex_ X d 165 95 [v0, v1, v2, v3] [.int (ia_ h a i), w0] h Q) := R_iald (show mx_at 165 94 = some (.iaload, 1) by decide +kernel)
set_option maxRecDepth 20000 in
theorem i165_95 : ex_ X d 165 95 [.ref a, v1, v2, v3] [w0, w1] h Q = ex_ X d 165 96 [.ref a, v1, v2, v3] [.ref a, w0, w1] h Q := ex_nx (show mx_at 165 95 = some (.aload_n 0, 1) by decide +kernel) rfl
set_option maxRecDepth 20000 in
theorem i165_96 : ex_ X d 165 96 [v0, v1, v2, v3] [.ref a, w0, w1] h Q = (gk_ h a 22 [(12, 0)] = true ∧ ex_ X d 165 99 [v0, v1, v2, v3] [gv_ h a 22, w0, w1] h Q) := R_getf (show mx_at 165 96 = some (.getfield 47, 3) by decide +kernel) (mx_fdo ow165 fd120047)
set_option maxRecDepth 20000 in
theorem i165_99 : ex_ X d 165 99 [v0, v1, v2, .int x] [w0, w1, w2] h Q = ex_ X d 165 100 [v0, v1, v2, .int x] [.int x, w0, w1, w2] h Q := ex_nx (show mx_at 165 99 = some (.iload_n 3, 1) by decide +kernel) rfl
set_option maxRecDepth 20000 in
theorem i165_100 : ex_ X d 165 100 [v0, v1, v2, v3] [w0, w1, w2, w3] h Q = ex_ X d 165 101 [v0, v1, v2, v3] [.int 1, w0, w1, w2, w3] h Q := R_iconst (show mx_at 165 100 = some (.iconst 1, 1) by decide +kernel) (by decide)
set_option maxRecDepth 20000 in
theorem i165_101 : ex_ X d 165 101 [v0, v1, v2, v3] [.int y, .int x, w0, w1, w2] h Q = ex_ X d 165 102 [v0, v1, v2, v3] [.int (x + y), w0, w1, w2] h Q := ex_nx (show mx_at 165 101 = some (.iadd, 1) by decide +kernel) rfl
set_option maxRecDepth 20000 in
theorem i165_102 : ex_ X d 165 102 [v0, v1, v2, v3] [.int i, .ref a, w0, w1] h Q = (ik_ h a i = true ∧ ex_ X d 165 103 [v0, v1, v2, v3] [.int (ia_ h a i), w0, w1] h Q) := R_iald (show mx_at 165 102 = some (.iaload, 1) by decide +kernel)
set_option maxRecDepth 20000 in
theorem i165_103 : ex_ X d 165 103 [.ref a, v1, v2, v3] [w0, w1, w2] h Q = ex_ X d 165 104 [.ref a, v1, v2, v3] [.ref a, w0, w1, w2] h Q := ex_nx (show mx_at 165 103 = some (.aload_n 0, 1) by decide +kernel) rfl
set_option maxRecDepth 20000 in
theorem i165_104 : ex_ X d 165 104 [v0, v1, v2, v3] [.ref a, w0, w1, w2] h Q = (gk_ h a 22 [(12, 0)] = true ∧ ex_ X d 165 107 [v0, v1, v2, v3] [gv_ h a 22, w0, w1, w2] h Q) := R_getf (show mx_at 165 104 = some (.getfield 47, 3) by decide +kernel) (mx_fdo ow165 fd120047)
set_option maxRecDepth 20000 in
theorem i165_107 : ex_ X d 165 107 [v0, v1, v2, .int x] [w0, w1, w2, w3] h Q = ex_ X d 165 108 [v0, v1, v2, .int x] [.int x, w0, w1, w2, w3] h Q := ex_nx (show mx_at 165 107 = some (.iload_n 3, 1) by decide +kernel) rfl
set_option maxRecDepth 20000 in
theorem i165_108 : ex_ X d 165 108 [v0, v1, v2, v3] [w0, w1, w2, w3, w4] h Q = ex_ X d 165 109 [v0, v1, v2, v3] [.int 2, w0, w1, w2, w3, w4] h Q := R_iconst (show mx_at 165 108 = some (.iconst 2, 1) by decide +kernel) (by decide)
set_option maxRecDepth 20000 in
theorem i165_109 : ex_ X d 165 109 [v0, v1, v2, v3] [.int y, .int x, w0, w1, w2, w3] h Q = ex_ X d 165 110 [v0, v1, v2, v3] [.int (x + y), w0, w1, w2, w3] h Q := ex_nx (show mx_at 165 109 = some (.iadd, 1) by decide +kernel) rfl
set_option maxRecDepth 20000 in
theorem i165_110 : ex_ X d 165 110 [v0, v1, v2, v3] [.int i, .ref a, w0, w1, w2] h Q = (ik_ h a i = true ∧ ex_ X d 165 111 [v0, v1, v2, v3] [.int (ia_ h a i), w0, w1, w2] h Q) := R_iald (show mx_at 165 110 = some (.iaload, 1) by decide +kernel)
set_option maxRecDepth 20000 in
theorem i165_111 (hc : co_ h a = some 12) : ex_ X (d + 1) 165 111 [v0, v1, v2, v3] [.int x2, .int x1, .int x0, .ref a] h Q = ev_ X d 161 [.ref a, .int x0, .int x1, .int x2] h (fun r h' => ex_ X (d + 1) 165 114 [v0, v1, v2, v3] (r.toList ++ []) h' Q) := R_vir (show mx_at 165 111 = some (.invokevirtual 199, 3) by decide +kernel) (mx_clk ow165 cc12_199) (Nat.le_of_ble_eq_true rfl) rfl rfl hc rfl (Nat.le_of_ble_eq_true rfl) (Nat.le_of_ble_eq_true rfl) (by rw [ml161]; exact Nat.le_of_ble_eq_true rfl)
set_option maxRecDepth 20000 in
theorem i165_114 : ex_ X d 165 114 [v0, v1, .int x, v3] [] h Q = (mx_nl v1 = true ∧ ex_ X d 165 117 [v0, v1, .int (x + 1), v3] [] h Q) := R_iinc (n := 2) (c := 1) (show mx_at 165 114 = some (.iinc 2 1, 3) by decide +kernel) rfl
set_option maxRecDepth 20000 in
theorem i165_117 : ex_ X d 165 117 [v0, v1, v2, .int x] [] h Q = (mx_nl v2 = true ∧ ex_ X d 165 120 [v0, v1, v2, .int (x + 3)] [] h Q) := R_iinc (n := 3) (c := 3) (show mx_at 165 117 = some (.iinc 3 3, 3) by decide +kernel) rfl
set_option maxRecDepth 20000 in
theorem i165_120 : ex_ X d 165 120 [v0, v1, v2, v3] [] h Q = ex_ X d 165 35 [v0, v1, v2, v3] [] h Q := R_to (show mx_at 165 120 = some (.goto (-85), 3) by decide +kernel) rfl rfl
set_option maxRecDepth 20000 in
theorem i165_123 : ex_ X d 165 123 [v0, v1, .int x, v3] [] h Q = ex_ X d 165 124 [v0, v1, .int x, v3] [.int x] h Q := ex_nx (show mx_at 165 123 = some (.iload_n 2, 1) by decide +kernel) rfl
set_option maxRecDepth 20000 in
theorem i165_124 : ex_ X d 165 124 [v0, v1, v2, v3] [.int x] h Q = Q (some (.int x)) h := ex_ret (show mx_at 165 124 = some (.ireturn, 1) by decide +kernel) (mx_retI rt165)
theorem i165_e : ev_ X d 165 [.ref a, .int x0] h Q = ex_ X d 165 0 [.ref a, .int x0, .double 0, .double 0] [] h Q := by rw [ev_, ml165]; rfl
-- 166 X12_now
set_option maxRecDepth 20000 in
theorem i166_0 : ex_ X d 166 0 [v0, .int x, v2, v3] [] h Q = ex_ X d 166 1 [v0, .int x, v2, v3] [.int x] h Q := ex_nx (show mx_at 166 0 = some (.iload_n 1, 1) by decide +kernel) rfl
set_option maxRecDepth 20000 in
theorem i166_1 : ex_ X d 166 1 [v0, v1, v2, v3] [.int x] h Q = ex_ X d 166 2 [v0, v1, v2, v3] [.long x.toInt64] h Q := ex_nx (show mx_at 166 1 = some (.i2l, 1) by decide +kernel) rfl
set_option maxRecDepth 20000 in
theorem i166_2 : ex_ X d 166 2 [v0, v1, v2, v3] [w0] h Q = ex_ X d 166 3 [v0, v1, v2, v3] [.long 0, w0] h Q := ex_nx (show mx_at 166 2 = some (.lconst 0, 1) by decide +kernel) rfl
set_option maxRecDepth 20000 in
theorem i166_3 : ex_ X d 166 3 [v0, v1, v2, v3] [w0, w1] h Q = ex_ X d 166 6 [v0, v1, v2, v3] [.long 4, w0, w1] h Q := R_ldc2 (show mx_at 166 3 = some (.ldc2_w 208, 3) by decide +kernel) ow166 kl120208
set_option maxRecDepth 20000 in
theorem i166_6 : ex_ X (d + 1) 166 6 [v0, v1, v2, v3] [.long j2, .long j1, .long j0] h Q = ev_ X d 124 [.long j0, .long j1, .long j2] h (fun r h' => ex_ X (d + 1) 166 9 [v0, v1, v2, v3] (r.toList ++ []) h' Q) := R_stat (show mx_at 166 6 = some (.invokestatic 54, 3) by decide +kernel) (mx_clk ow166 cc12_54) (Nat.le_of_ble_eq_true rfl) rfl rfl (Nat.le_of_ble_eq_true rfl) ml124 (Nat.le_of_ble_eq_true rfl)
set_option maxRecDepth 20000 in
theorem i166_9 : ex_ X d 166 9 [v0, v1, v2, v3] [.int x] h Q = if x = 0 then ex_ X d 166 45 [v0, v1, v2, v3] [] h Q else ex_ X d 166 12 [v0, v1, v2, v3] [] h Q := (R_br (show mx_at 166 9 = some (.ifCond .eq 36, 3) by decide +kernel) rfl rfl).trans mx_ite
set_option maxRecDepth 20000 in
theorem i166_12 : ex_ X d 166 12 [v0, v1, .int x, v3] [] h Q = ex_ X d 166 13 [v0, v1, .int x, v3] [.int x] h Q := ex_nx (show mx_at 166 12 = some (.iload_n 2, 1) by decide +kernel) rfl
set_option maxRecDepth 20000 in
theorem i166_13 : ex_ X d 166 13 [v0, v1, v2, v3] [.int x] h Q = ex_ X d 166 14 [v0, v1, v2, v3] [.long x.toInt64] h Q := ex_nx (show mx_at 166 13 = some (.i2l, 1) by decide +kernel) rfl
set_option maxRecDepth 20000 in
theorem i166_14 : ex_ X d 166 14 [v0, v1, v2, v3] [w0] h Q = ex_ X d 166 15 [v0, v1, v2, v3] [.long 0, w0] h Q := ex_nx (show mx_at 166 14 = some (.lconst 0, 1) by decide +kernel) rfl
set_option maxRecDepth 20000 in
theorem i166_15 : ex_ X d 166 15 [v0, .int x, v2, v3] [w0, w1] h Q = ex_ X d 166 16 [v0, .int x, v2, v3] [.int x, w0, w1] h Q := ex_nx (show mx_at 166 15 = some (.iload_n 1, 1) by decide +kernel) rfl
set_option maxRecDepth 20000 in
theorem i166_16 : ex_ X d 166 16 [v0, v1, v2, v3] [.int x, w0, w1] h Q = if ¬ x = 0 then ex_ X d 166 25 [v0, v1, v2, v3] [w0, w1] h Q else ex_ X d 166 19 [v0, v1, v2, v3] [w0, w1] h Q := (R_br (show mx_at 166 16 = some (.ifCond .ne 9, 3) by decide +kernel) rfl rfl).trans mx_ite
set_option maxRecDepth 20000 in
theorem i166_19 : ex_ X d 166 19 [v0, v1, v2, v3] [w0, w1] h Q = ex_ X d 166 22 [v0, v1, v2, v3] [.long 2, w0, w1] h Q := R_ldc2 (show mx_at 166 19 = some (.ldc2_w 179, 3) by decide +kernel) ow166 kl120179
set_option maxRecDepth 20000 in
theorem i166_22 : ex_ X d 166 22 [v0, v1, v2, v3] [w0, w1, w2] h Q = ex_ X d 166 39 [v0, v1, v2, v3] [w0, w1, w2] h Q := R_to (show mx_at 166 22 = some (.goto 17, 3) by decide +kernel) rfl rfl
set_option maxRecDepth 20000 in
theorem i166_25 : ex_ X d 166 25 [v0, .int x, v2, v3] [w0, w1] h Q = ex_ X d 166 26 [v0, .int x, v2, v3] [.int x, w0, w1] h Q := ex_nx (show mx_at 166 25 = some (.iload_n 1, 1) by decide +kernel) rfl
set_option maxRecDepth 20000 in
theorem i166_26 : ex_ X d 166 26 [v0, v1, v2, v3] [w0, w1, w2] h Q = ex_ X d 166 27 [v0, v1, v2, v3] [.int 4, w0, w1, w2] h Q := R_iconst (show mx_at 166 26 = some (.iconst 4, 1) by decide +kernel) (by decide)
set_option maxRecDepth 20000 in
theorem i166_27 : ex_ X d 166 27 [v0, v1, v2, v3] [.int y, .int x, w0, w1] h Q = if ¬ x = y then ex_ X d 166 36 [v0, v1, v2, v3] [w0, w1] h Q else ex_ X d 166 30 [v0, v1, v2, v3] [w0, w1] h Q := (R_br (show mx_at 166 27 = some (.if_icmp .ne 9, 3) by decide +kernel) rfl rfl).trans mx_ite
set_option maxRecDepth 20000 in
theorem i166_30 : ex_ X d 166 30 [v0, v1, v2, v3] [w0, w1] h Q = ex_ X d 166 33 [v0, v1, v2, v3] [.long 999, w0, w1] h Q := R_ldc2 (show mx_at 166 30 = some (.ldc2_w 187, 3) by decide +kernel) ow166 kl120187
set_option maxRecDepth 20000 in
theorem i166_33 : ex_ X d 166 33 [v0, v1, v2, v3] [w0, w1, w2] h Q = ex_ X d 166 39 [v0, v1, v2, v3] [w0, w1, w2] h Q := R_to (show mx_at 166 33 = some (.goto 6, 3) by decide +kernel) rfl rfl
set_option maxRecDepth 20000 in
theorem i166_36 : ex_ X d 166 36 [v0, v1, v2, v3] [w0, w1] h Q = ex_ X d 166 39 [v0, v1, v2, v3] [.long 40, w0, w1] h Q := R_ldc2 (show mx_at 166 36 = some (.ldc2_w 216, 3) by decide +kernel) ow166 kl120216
set_option maxRecDepth 20000 in
theorem i166_39 : ex_ X (d + 1) 166 39 [v0, v1, v2, v3] [.long j2, .long j1, .long j0] h Q = ev_ X d 124 [.long j0, .long j1, .long j2] h (fun r h' => ex_ X (d + 1) 166 42 [v0, v1, v2, v3] (r.toList ++ []) h' Q) := R_stat (show mx_at 166 39 = some (.invokestatic 54, 3) by decide +kernel) (mx_clk ow166 cc12_54) (Nat.le_of_ble_eq_true rfl) rfl rfl (Nat.le_of_ble_eq_true rfl) ml124 (Nat.le_of_ble_eq_true rfl)
set_option maxRecDepth 20000 in
theorem i166_42 : ex_ X d 166 42 [v0, v1, v2, v3] [.int x] h Q = if ¬ x = 0 then ex_ X d 166 51 [v0, v1, v2, v3] [] h Q else ex_ X d 166 45 [v0, v1, v2, v3] [] h Q := (R_br (show mx_at 166 42 = some (.ifCond .ne 9, 3) by decide +kernel) rfl rfl).trans mx_ite
set_option maxRecDepth 20000 in
theorem i166_45 : ex_ X d 166 45 [.ref a, v1, v2, v3] [] h Q = ex_ X d 166 46 [.ref a, v1, v2, v3] [.ref a] h Q := ex_nx (show mx_at 166 45 = some (.aload_n 0, 1) by decide +kernel) rfl
set_option maxRecDepth 20000 in
theorem i166_46 : ex_ X d 166 46 [v0, v1, v2, v3] [w0] h Q = ex_ X d 166 47 [v0, v1, v2, v3] [.int 1, w0] h Q := R_iconst (show mx_at 166 46 = some (.iconst 1, 1) by decide +kernel) (by decide)
set_option maxRecDepth 20000 in
theorem i166_47 (hc : co_ h a = some 12) : ex_ X (d + 1) 166 47 [v0, v1, v2, v3] [.int x0, .ref a] h Q = ev_ X d 123 [.ref a, .int x0] h (fun r h' => ex_ X (d + 1) 166 50 [v0, v1, v2, v3] (r.toList ++ []) h' Q) := R_vir (show mx_at 166 47 = some (.invokevirtual 131, 3) by decide +kernel) (mx_clk ow166 cc12_131) (Nat.le_of_ble_eq_true rfl) rfl rfl hc rfl (Nat.le_of_ble_eq_true rfl) (Nat.le_of_ble_eq_true rfl) (by rw [ml123]; exact Nat.le_of_ble_eq_true rfl)
set_option maxRecDepth 20000 in
theorem i166_50 : ex_ X d 166 50 [v0, v1, v2, v3] [.int x] h Q = Q (some (.int x)) h := ex_ret (show mx_at 166 50 = some (.ireturn, 1) by decide +kernel) (mx_retI rt166)
set_option maxRecDepth 20000 in
theorem i166_51 : ex_ X d 166 51 [.ref a, v1, v2, v3] [] h Q = ex_ X d 166 52 [.ref a, v1, v2, v3] [.ref a] h Q := ex_nx (show mx_at 166 51 = some (.aload_n 0, 1) by decide +kernel) rfl
set_option maxRecDepth 20000 in
theorem i166_52 : ex_ X d 166 52 [v0, v1, v2, v3] [.ref a] h Q = (gk_ h a 0 [(12, 0)] = true ∧ ex_ X d 166 55 [v0, v1, v2, v3] [gv_ h a 0] h Q) := R_getf (show mx_at 166 52 = some (.getfield 7, 3) by decide +kernel) (mx_fdo ow166 fd120007)
set_option maxRecDepth 20000 in
theorem i166_55 : ex_ X d 166 55 [v0, v1, v2, v3] [w0] h Q = ex_ X d 166 56 [v0, v1, v2, v3] [.int 3, w0] h Q := R_iconst (show mx_at 166 55 = some (.iconst 3, 1) by decide +kernel) (by decide)
set_option maxRecDepth 20000 in
theorem i166_56 : ex_ X d 166 56 [v0, .int x, v2, v3] [w0, w1] h Q = ex_ X d 166 57 [v0, .int x, v2, v3] [.int x, w0, w1] h Q := ex_nx (show mx_at 166 56 = some (.iload_n 1, 1) by decide +kernel) rfl
set_option maxRecDepth 20000 in
theorem i166_57 : ex_ X d 166 57 [v0, v1, v2, v3] [.int y, .int x, w0] h Q = ex_ X d 166 58 [v0, v1, v2, v3] [.int (x + y), w0] h Q := ex_nx (show mx_at 166 57 = some (.iadd, 1) by decide +kernel) rfl
set_option maxRecDepth 20000 in
theorem i166_58 : ex_ X d 166 58 [v0, v1, v2, v3] [.int i, .ref a] h Q = (ik_ h a i = true ∧ ex_ X d 166 59 [v0, v1, v2, v3] [.int (ia_ h a i)] h Q) := R_iald (show mx_at 166 58 = some (.iaload, 1) by decide +kernel)
set_option maxRecDepth 20000 in
theorem i166_59 : ex_ X d 166 59 [v0, v1, v2, v3] [.int x] h Q = (mx_nl v2 = true ∧ ex_ X d 166 60 [v0, v1, v2, .int x] [] h Q) := mx_t1 (R_st (ok := mx_isI) (n := 3) (w := 1) (show mx_at 166 59 = some (.istore_n 3, 1) by decide +kernel) (fun _ _ => rfl) (Nat.le_of_ble_eq_true rfl)) rfl
set_option maxRecDepth 20000 in
theorem i166_60 : ex_ X d 166 60 [.ref a, v1, v2, v3] [] h Q = ex_ X d 166 61 [.ref a, v1, v2, v3] [.ref a] h Q := ex_nx (show mx_at 166 60 = some (.aload_n 0, 1) by decide +kernel) rfl
set_option maxRecDepth 20000 in
theorem i166_61 : ex_ X d 166 61 [v0, v1, v2, v3] [.ref a] h Q = (gk_ h a 0 [(12, 0)] = true ∧ ex_ X d 166 64 [v0, v1, v2, v3] [gv_ h a 0] h Q) := R_getf (show mx_at 166 61 = some (.getfield 7, 3) by decide +kernel) (mx_fdo ow166 fd120007)
set_option maxRecDepth 20000 in
theorem i166_64 : ex_ X d 166 64 [v0, v1, v2, v3] [w0] h Q = ex_ X d 166 65 [v0, v1, v2, v3] [.int 3, w0] h Q := R_iconst (show mx_at 166 64 = some (.iconst 3, 1) by decide +kernel) (by decide)
set_option maxRecDepth 20000 in
theorem i166_65 : ex_ X d 166 65 [v0, .int x, v2, v3] [w0, w1] h Q = ex_ X d 166 66 [v0, .int x, v2, v3] [.int x, w0, w1] h Q := ex_nx (show mx_at 166 65 = some (.iload_n 1, 1) by decide +kernel) rfl
set_option maxRecDepth 20000 in
theorem i166_66 : ex_ X d 166 66 [v0, v1, v2, v3] [.int y, .int x, w0] h Q = ex_ X d 166 67 [v0, v1, v2, v3] [.int (x + y), w0] h Q := ex_nx (show mx_at 166 66 = some (.iadd, 1) by decide +kernel) rfl
set_option maxRecDepth 20000 in
theorem i166_67 : ex_ X d 166 67 [v0, v1, .int x, v3] [w0, w1] h Q = ex_ X d 166 68 [v0, v1, .int x, v3] [.int x, w0, w1] h Q := ex_nx (show mx_at 166 67 = some (.iload_n 2, 1) by decide +kernel) rfl
set_option maxRecDepth 20000 in
theorem i166_68 : ex_ X d 166 68 [v0, v1, v2, v3] [.int x, .int i, .ref a] h Q = (ik_ h a i = true ∧ ex_ X d 166 69 [v0, v1, v2, v3] [] (is_ h a i x) Q) := R_iast (show mx_at 166 68 = some (.iastore, 1) by decide +kernel)
set_option maxRecDepth 20000 in
theorem i166_69 : ex_ X d 166 69 [v0, v1, v2, .int x] [] h Q = ex_ X d 166 70 [v0, v1, v2, .int x] [.int x] h Q := ex_nx (show mx_at 166 69 = some (.iload_n 3, 1) by decide +kernel) rfl
set_option maxRecDepth 20000 in
theorem i166_70 : ex_ X d 166 70 [v0, v1, v2, v3] [.int x] h Q = Q (some (.int x)) h := ex_ret (show mx_at 166 70 = some (.ireturn, 1) by decide +kernel) (mx_retI rt166)
theorem i166_e : ev_ X d 166 [.ref a, .int x0, .int x1] h Q = ex_ X d 166 0 [.ref a, .int x0, .int x1, .double 0] [] h Q := by rw [ev_, ml166]; rfl
-- 167 X12_earns
set_option maxRecDepth 20000 in
theorem i167_0 : ex_ X d 167 0 [v0, v1, v2, v3] [] h Q = ex_ X d 167 2 [v0, v1, v2, v3] [.int 20] h Q := R_bipush (show mx_at 167 0 = some (.bipush 20, 2) by decide +kernel) (by decide)
set_option maxRecDepth 20000 in
theorem i167_2 : ex_ X d 167 2 [v0, v1, v2, v3] [w0] h Q = ex_ X d 167 4 [v0, v1, v2, v3] [.int 8, w0] h Q := R_bipush (show mx_at 167 2 = some (.bipush 8, 2) by decide +kernel) (by decide)
set_option maxRecDepth 20000 in
theorem i167_4 : ex_ X d 167 4 [v0, .int x, v2, v3] [w0, w1] h Q = ex_ X d 167 5 [v0, .int x, v2, v3] [.int x, w0, w1] h Q := ex_nx (show mx_at 167 4 = some (.iload_n 1, 1) by decide +kernel) rfl
set_option maxRecDepth 20000 in
theorem i167_5 : ex_ X d 167 5 [v0, v1, v2, v3] [.int y, .int x, w0] h Q = ex_ X d 167 6 [v0, v1, v2, v3] [.int (x * y), w0] h Q := ex_nx (show mx_at 167 5 = some (.imul, 1) by decide +kernel) rfl
set_option maxRecDepth 20000 in
theorem i167_6 : ex_ X d 167 6 [v0, v1, v2, v3] [.int y, .int x] h Q = ex_ X d 167 7 [v0, v1, v2, v3] [.int (x + y)] h Q := ex_nx (show mx_at 167 6 = some (.iadd, 1) by decide +kernel) rfl
set_option maxRecDepth 20000 in
theorem i167_7 : ex_ X d 167 7 [v0, v1, v2, v3] [w0] h Q = ex_ X d 167 8 [v0, v1, v2, v3] [.int 5, w0] h Q := R_iconst (show mx_at 167 7 = some (.iconst 5, 1) by decide +kernel) (by decide)
set_option maxRecDepth 20000 in
theorem i167_8 : ex_ X d 167 8 [v0, v1, v2, v3] [.int y, .int x] h Q = ex_ X d 167 9 [v0, v1, v2, v3] [.int (x + y)] h Q := ex_nx (show mx_at 167 8 = some (.iadd, 1) by decide +kernel) rfl
set_option maxRecDepth 20000 in
theorem i167_9 : ex_ X d 167 9 [v0, v1, v2, v3] [.int x] h Q = (mx_nl v2 = true ∧ ex_ X d 167 10 [v0, v1, v2, .int x] [] h Q) := mx_t1 (R_st (ok := mx_isI) (n := 3) (w := 1) (show mx_at 167 9 = some (.istore_n 3, 1) by decide +kernel) (fun _ _ => rfl) (Nat.le_of_ble_eq_true rfl)) rfl
set_option maxRecDepth 20000 in
theorem i167_10 : ex_ X d 167 10 [.ref a, v1, v2, v3] [] h Q = ex_ X d 167 11 [.ref a, v1, v2, v3] [.ref a] h Q := ex_nx (show mx_at 167 10 = some (.aload_n 0, 1) by decide +kernel) rfl
set_option maxRecDepth 20000 in
theorem i167_11 : ex_ X d 167 11 [v0, v1, v2, .int x] [w0] h Q = ex_ X d 167 12 [v0, v1, v2, .int x] [.int x, w0] h Q := ex_nx (show mx_at 167 11 = some (.iload_n 3, 1) by decide +kernel) rfl
set_option maxRecDepth 20000 in
theorem i167_12 : ex_ X d 167 12 [.ref a, v1, v2, v3] [w0, w1] h Q = ex_ X d 167 13 [.ref a, v1, v2, v3] [.ref a, w0, w1] h Q := ex_nx (show mx_at 167 12 = some (.aload_n 0, 1) by decide +kernel) rfl
set_option maxRecDepth 20000 in
theorem i167_13 : ex_ X d 167 13 [v0, v1, v2, .int x] [w0, w1, w2] h Q = ex_ X d 167 14 [v0, v1, v2, .int x] [.int x, w0, w1, w2] h Q := ex_nx (show mx_at 167 13 = some (.iload_n 3, 1) by decide +kernel) rfl
set_option maxRecDepth 20000 in
theorem i167_14 : ex_ X d 167 14 [v0, v1, v2, v3] [.int i, .ref a, w0, w1] h Q = (ik_ h a i = true ∧ ex_ X d 167 15 [v0, v1, v2, v3] [.int (ia_ h a i), w0, w1] h Q) := R_iald (show mx_at 167 14 = some (.iaload, 1) by decide +kernel)
set_option maxRecDepth 20000 in
theorem i167_15 : ex_ X d 167 15 [v0, v1, .int x, v3] [w0, w1, w2] h Q = ex_ X d 167 16 [v0, v1, .int x, v3] [.int x, w0, w1, w2] h Q := ex_nx (show mx_at 167 15 = some (.iload_n 2, 1) by decide +kernel) rfl
set_option maxRecDepth 20000 in
theorem i167_16 : ex_ X d 167 16 [v0, v1, v2, v3] [.int y, .int x, w0, w1] h Q = ex_ X d 167 17 [v0, v1, v2, v3] [.int (x + y), w0, w1] h Q := ex_nx (show mx_at 167 16 = some (.iadd, 1) by decide +kernel) rfl
set_option maxRecDepth 20000 in
theorem i167_17 : ex_ X d 167 17 [v0, v1, v2, v3] [w0, w1, w2] h Q = ex_ X d 167 19 [v0, v1, v2, v3] [.int (-99999999), w0, w1, w2] h Q := R_ldc (show mx_at 167 17 = some (.ldc 218, 2) by decide +kernel) (by decide) ow167 ki120218
set_option maxRecDepth 20000 in
theorem i167_19 : ex_ X d 167 19 [v0, v1, v2, v3] [w0, w1, w2, w3] h Q = ex_ X d 167 21 [v0, v1, v2, v3] [.int 99999999, w0, w1, w2, w3] h Q := R_ldc (show mx_at 167 19 = some (.ldc 219, 2) by decide +kernel) (by decide) ow167 ki120219
set_option maxRecDepth 20000 in
theorem i167_21 : ex_ X (d + 1) 167 21 [v0, v1, v2, v3] [.int x2, .int x1, .int x0, w0, w1] h Q = ev_ X d 125 [.int x0, .int x1, .int x2] h (fun r h' => ex_ X (d + 1) 167 24 [v0, v1, v2, v3] (r.toList ++ [w0, w1]) h' Q) := R_stat (show mx_at 167 21 = some (.invokestatic 162, 3) by decide +kernel) (mx_clk ow167 cc12_162) (Nat.le_of_ble_eq_true rfl) rfl rfl (Nat.le_of_ble_eq_true rfl) ml125 (Nat.le_of_ble_eq_true rfl)
set_option maxRecDepth 20000 in
theorem i167_24 : ex_ X d 167 24 [v0, v1, v2, v3] [.int x, .int i, .ref a] h Q = (ik_ h a i = true ∧ ex_ X d 167 25 [v0, v1, v2, v3] [] (is_ h a i x) Q) := R_iast (show mx_at 167 24 = some (.iastore, 1) by decide +kernel)
set_option maxRecDepth 20000 in
theorem i167_25 : ex_ X d 167 25 [v0, v1, v2, v3] [] h Q = Q none h := ex_ret (show mx_at 167 25 = some (.return_, 1) by decide +kernel) (mx_retV rt167)
theorem i167_e : ev_ X d 167 [.ref a0, .int x1, .int x2] h Q = ex_ X d 167 0 [.ref a0, .int x1, .int x2, .double 0] [] h Q := by rw [ev_, ml167]; rfl
-- 168 X12_cheapest
set_option maxRecDepth 20000 in
theorem i168_0 : ex_ X d 168 0 [v0, v1, v2, v3, v4] [] h Q = ex_ X d 168 1 [v0, v1, v2, v3, v4] [.int (-1)] h Q := R_iconst (show mx_at 168 0 = some (.iconst (-1), 1) by decide +kernel) (by decide)
set_option maxRecDepth 20000 in
theorem i168_1 : ex_ X d 168 1 [v0, v1, v2, v3, v4] [.int x] h Q = (mx_nl v1 = true ∧ ex_ X d 168 2 [v0, v1, .int x, v3, v4] [] h Q) := mx_t1 (R_st (ok := mx_isI) (n := 2) (w := 1) (show mx_at 168 1 = some (.istore_n 2, 1) by decide +kernel) (fun _ _ => rfl) (Nat.le_of_ble_eq_true rfl)) rfl
set_option maxRecDepth 20000 in
theorem i168_2 : ex_ X d 168 2 [v0, v1, v2, v3, v4] [] h Q = ex_ X d 168 3 [v0, v1, v2, v3, v4] [.int 0] h Q := R_iconst (show mx_at 168 2 = some (.iconst 0, 1) by decide +kernel) (by decide)
set_option maxRecDepth 20000 in
theorem i168_3 : ex_ X d 168 3 [v0, v1, v2, v3, v4] [.int x] h Q = (mx_nl v2 = true ∧ ex_ X d 168 4 [v0, v1, v2, .int x, v4] [] h Q) := mx_t1 (R_st (ok := mx_isI) (n := 3) (w := 1) (show mx_at 168 3 = some (.istore_n 3, 1) by decide +kernel) (fun _ _ => rfl) (Nat.le_of_ble_eq_true rfl)) rfl
set_option maxRecDepth 20000 in
theorem i168_4 : ex_ X d 168 4 [v0, v1, v2, .int x, v4] [] h Q = ex_ X d 168 5 [v0, v1, v2, .int x, v4] [.int x] h Q := ex_nx (show mx_at 168 4 = some (.iload_n 3, 1) by decide +kernel) rfl
set_option maxRecDepth 20000 in
theorem i168_5 : ex_ X d 168 5 [v0, .ref a, v2, v3, v4] [w0] h Q = ex_ X d 168 6 [v0, .ref a, v2, v3, v4] [.ref a, w0] h Q := ex_nx (show mx_at 168 5 = some (.aload_n 1, 1) by decide +kernel) rfl
set_option maxRecDepth 20000 in
theorem i168_6 : ex_ X d 168 6 [v0, v1, v2, v3, v4] [w0, w1] h Q = ex_ X d 168 7 [v0, v1, v2, v3, v4] [.int 1, w0, w1] h Q := R_iconst (show mx_at 168 6 = some (.iconst 1, 1) by decide +kernel) (by decide)
set_option maxRecDepth 20000 in
theorem i168_7 : ex_ X d 168 7 [v0, v1, v2, v3, v4] [.int i, .ref a, w0] h Q = (ik_ h a i = true ∧ ex_ X d 168 8 [v0, v1, v2, v3, v4] [.int (ia_ h a i), w0] h Q) := R_iald (show mx_at 168 7 = some (.iaload, 1) by decide +kernel)
set_option maxRecDepth 20000 in
theorem i168_8 : ex_ X d 168 8 [v0, v1, v2, v3, v4] [.int y, .int x] h Q = if y ≤ x then ex_ X d 168 84 [v0, v1, v2, v3, v4] [] h Q else ex_ X d 168 11 [v0, v1, v2, v3, v4] [] h Q := (R_br (show mx_at 168 8 = some (.if_icmp .ge 76, 3) by decide +kernel) rfl rfl).trans mx_ite
set_option maxRecDepth 20000 in
theorem i168_11 : ex_ X d 168 11 [.ref a, v1, v2, v3, v4] [] h Q = ex_ X d 168 12 [.ref a, v1, v2, v3, v4] [.ref a] h Q := ex_nx (show mx_at 168 11 = some (.aload_n 0, 1) by decide +kernel) rfl
set_option maxRecDepth 20000 in
theorem i168_12 : ex_ X d 168 12 [v0, v1, v2, v3, v4] [.ref a] h Q = (gk_ h a 15 [(12, 0)] = true ∧ ex_ X d 168 15 [v0, v1, v2, v3, v4] [gv_ h a 15] h Q) := R_getf (show mx_at 168 12 = some (.getfield 31, 3) by decide +kernel) (mx_fdo ow168 fd120031)
set_option maxRecDepth 20000 in
theorem i168_15 : ex_ X d 168 15 [v0, v1, v2, .int x, v4] [w0] h Q = ex_ X d 168 16 [v0, v1, v2, .int x, v4] [.int x, w0] h Q := ex_nx (show mx_at 168 15 = some (.iload_n 3, 1) by decide +kernel) rfl
set_option maxRecDepth 20000 in
theorem i168_16 : ex_ X d 168 16 [v0, v1, v2, v3, v4] [.int i, .ref a] h Q = (bk_ h a i = true ∧ ex_ X d 168 17 [v0, v1, v2, v3, v4] [.int (ba_ h a i)] h Q) := R_bald (show mx_at 168 16 = some (.baload, 1) by decide +kernel)
set_option maxRecDepth 20000 in
theorem i168_17 : ex_ X d 168 17 [v0, v1, v2, v3, v4] [.int x] h Q = if ¬ x = 0 then ex_ X d 168 43 [v0, v1, v2, v3, v4] [] h Q else ex_ X d 168 20 [v0, v1, v2, v3, v4] [] h Q := (R_br (show mx_at 168 17 = some (.ifCond .ne 26, 3) by decide +kernel) rfl rfl).trans mx_ite
set_option maxRecDepth 20000 in
theorem i168_20 : ex_ X d 168 20 [v0, .ref a, v2, v3, v4] [] h Q = ex_ X d 168 21 [v0, .ref a, v2, v3, v4] [.ref a] h Q := ex_nx (show mx_at 168 20 = some (.aload_n 1, 1) by decide +kernel) rfl
set_option maxRecDepth 20000 in
theorem i168_21 : ex_ X d 168 21 [v0, v1, v2, .int x, v4] [w0] h Q = ex_ X d 168 22 [v0, v1, v2, .int x, v4] [.int x, w0] h Q := ex_nx (show mx_at 168 21 = some (.iload_n 3, 1) by decide +kernel) rfl
set_option maxRecDepth 20000 in
theorem i168_22 : ex_ X d 168 22 [v0, v1, v2, v3, v4] [w0, w1] h Q = ex_ X d 168 23 [v0, v1, v2, v3, v4] [.int 4, w0, w1] h Q := R_iconst (show mx_at 168 22 = some (.iconst 4, 1) by decide +kernel) (by decide)
set_option maxRecDepth 20000 in
theorem i168_23 : ex_ X (d + 1) 168 23 [v0, v1, v2, v3, v4] [.int x2, .int x1, .ref a0] h Q = ev_ X d 129 [.ref a0, .int x1, .int x2] h (fun r h' => ex_ X (d + 1) 168 26 [v0, v1, v2, v3, v4] (r.toList ++ []) h' Q) := R_stat (show mx_at 168 23 = some (.invokestatic 154, 3) by decide +kernel) (mx_clk ow168 cc12_154) (Nat.le_of_ble_eq_true rfl) rfl rfl (Nat.le_of_ble_eq_true rfl) ml129 (Nat.le_of_ble_eq_true rfl)
set_option maxRecDepth 20000 in
theorem i168_26 : ex_ X d 168 26 [v0, v1, v2, v3, v4] [.int x] h Q = if x ≤ 0 then ex_ X d 168 43 [v0, v1, v2, v3, v4] [] h Q else ex_ X d 168 29 [v0, v1, v2, v3, v4] [] h Q := (R_br (show mx_at 168 26 = some (.ifCond .le 17, 3) by decide +kernel) rfl rfl).trans mx_ite
set_option maxRecDepth 20000 in
theorem i168_29 : ex_ X d 168 29 [v0, .ref a, v2, v3, v4] [] h Q = ex_ X d 168 30 [v0, .ref a, v2, v3, v4] [.ref a] h Q := ex_nx (show mx_at 168 29 = some (.aload_n 1, 1) by decide +kernel) rfl
set_option maxRecDepth 20000 in
theorem i168_30 : ex_ X d 168 30 [v0, v1, v2, .int x, v4] [w0] h Q = ex_ X d 168 31 [v0, v1, v2, .int x, v4] [.int x, w0] h Q := ex_nx (show mx_at 168 30 = some (.iload_n 3, 1) by decide +kernel) rfl
set_option maxRecDepth 20000 in
theorem i168_31 : ex_ X d 168 31 [v0, v1, v2, v3, v4] [w0, w1] h Q = ex_ X d 168 33 [v0, v1, v2, v3, v4] [.int 6, w0, w1] h Q := R_bipush (show mx_at 168 31 = some (.bipush 6, 2) by decide +kernel) (by decide)
set_option maxRecDepth 20000 in
theorem i168_33 : ex_ X (d + 1) 168 33 [v0, v1, v2, v3, v4] [.int x2, .int x1, .ref a0] h Q = ev_ X d 129 [.ref a0, .int x1, .int x2] h (fun r h' => ex_ X (d + 1) 168 36 [v0, v1, v2, v3, v4] (r.toList ++ []) h' Q) := R_stat (show mx_at 168 33 = some (.invokestatic 154, 3) by decide +kernel) (mx_clk ow168 cc12_154) (Nat.le_of_ble_eq_true rfl) rfl rfl (Nat.le_of_ble_eq_true rfl) ml129 (Nat.le_of_ble_eq_true rfl)
set_option maxRecDepth 20000 in
theorem i168_36 : ex_ X d 168 36 [v0, v1, v2, v3, v4] [.int x] h Q = if x < 0 then ex_ X d 168 43 [v0, v1, v2, v3, v4] [] h Q else ex_ X d 168 39 [v0, v1, v2, v3, v4] [] h Q := (R_br (show mx_at 168 36 = some (.ifCond .lt 7, 3) by decide +kernel) rfl rfl).trans mx_ite
set_option maxRecDepth 20000 in
theorem i168_39 : ex_ X d 168 39 [v0, v1, v2, v3, v4] [] h Q = ex_ X d 168 40 [v0, v1, v2, v3, v4] [.int 1] h Q := R_iconst (show mx_at 168 39 = some (.iconst 1, 1) by decide +kernel) (by decide)
set_option maxRecDepth 20000 in
theorem i168_40 : ex_ X d 168 40 [v0, v1, v2, v3, v4] [w0] h Q = ex_ X d 168 44 [v0, v1, v2, v3, v4] [w0] h Q := R_to (show mx_at 168 40 = some (.goto 4, 3) by decide +kernel) rfl rfl
set_option maxRecDepth 20000 in
theorem i168_43 : ex_ X d 168 43 [v0, v1, v2, v3, v4] [] h Q = ex_ X d 168 44 [v0, v1, v2, v3, v4] [.int 0] h Q := R_iconst (show mx_at 168 43 = some (.iconst 0, 1) by decide +kernel) (by decide)
set_option maxRecDepth 20000 in
theorem i168_44 : ex_ X d 168 44 [v0, v1, v2, v3, v4] [.int x] h Q = (mx_nl v3 = true ∧ ex_ X d 168 46 [v0, v1, v2, v3, .int x] [] h Q) := mx_t1 (R_st (ok := mx_isI) (n := 4) (w := 2) (show mx_at 168 44 = some (.istore 4, 2) by decide +kernel) (fun _ _ => rfl) (Nat.le_of_ble_eq_true rfl)) rfl
set_option maxRecDepth 20000 in
theorem i168_46 : ex_ X d 168 46 [v0, v1, v2, v3, .int x] [] h Q = ex_ X d 168 48 [v0, v1, v2, v3, .int x] [.int x] h Q := ex_nx (show mx_at 168 46 = some (.iload 4, 2) by decide +kernel) rfl
set_option maxRecDepth 20000 in
theorem i168_48 : ex_ X d 168 48 [v0, v1, v2, v3, v4] [.int x] h Q = if x = 0 then ex_ X d 168 76 [v0, v1, v2, v3, v4] [] h Q else ex_ X d 168 51 [v0, v1, v2, v3, v4] [] h Q := (R_br (show mx_at 168 48 = some (.ifCond .eq 28, 3) by decide +kernel) rfl rfl).trans mx_ite
set_option maxRecDepth 20000 in
theorem i168_51 : ex_ X d 168 51 [v0, v1, .int x, v3, v4] [] h Q = ex_ X d 168 52 [v0, v1, .int x, v3, v4] [.int x] h Q := ex_nx (show mx_at 168 51 = some (.iload_n 2, 1) by decide +kernel) rfl
set_option maxRecDepth 20000 in
theorem i168_52 : ex_ X d 168 52 [v0, v1, v2, v3, v4] [.int x] h Q = if x < 0 then ex_ X d 168 72 [v0, v1, v2, v3, v4] [] h Q else ex_ X d 168 55 [v0, v1, v2, v3, v4] [] h Q := (R_br (show mx_at 168 52 = some (.ifCond .lt 20, 3) by decide +kernel) rfl rfl).trans mx_ite
set_option maxRecDepth 20000 in
theorem i168_55 : ex_ X d 168 55 [v0, .ref a, v2, v3, v4] [] h Q = ex_ X d 168 56 [v0, .ref a, v2, v3, v4] [.ref a] h Q := ex_nx (show mx_at 168 55 = some (.aload_n 1, 1) by decide +kernel) rfl
set_option maxRecDepth 20000 in
theorem i168_56 : ex_ X d 168 56 [v0, v1, v2, .int x, v4] [w0] h Q = ex_ X d 168 57 [v0, v1, v2, .int x, v4] [.int x, w0] h Q := ex_nx (show mx_at 168 56 = some (.iload_n 3, 1) by decide +kernel) rfl
set_option maxRecDepth 20000 in
theorem i168_57 : ex_ X d 168 57 [v0, v1, v2, v3, v4] [w0, w1] h Q = ex_ X d 168 59 [v0, v1, v2, v3, v4] [.int 6, w0, w1] h Q := R_bipush (show mx_at 168 57 = some (.bipush 6, 2) by decide +kernel) (by decide)
set_option maxRecDepth 20000 in
theorem i168_59 : ex_ X (d + 1) 168 59 [v0, v1, v2, v3, v4] [.int x2, .int x1, .ref a0] h Q = ev_ X d 129 [.ref a0, .int x1, .int x2] h (fun r h' => ex_ X (d + 1) 168 62 [v0, v1, v2, v3, v4] (r.toList ++ []) h' Q) := R_stat (show mx_at 168 59 = some (.invokestatic 154, 3) by decide +kernel) (mx_clk ow168 cc12_154) (Nat.le_of_ble_eq_true rfl) rfl rfl (Nat.le_of_ble_eq_true rfl) ml129 (Nat.le_of_ble_eq_true rfl)
set_option maxRecDepth 20000 in
theorem i168_62 : ex_ X d 168 62 [v0, .ref a, v2, v3, v4] [w0] h Q = ex_ X d 168 63 [v0, .ref a, v2, v3, v4] [.ref a, w0] h Q := ex_nx (show mx_at 168 62 = some (.aload_n 1, 1) by decide +kernel) rfl
set_option maxRecDepth 20000 in
theorem i168_63 : ex_ X d 168 63 [v0, v1, .int x, v3, v4] [w0, w1] h Q = ex_ X d 168 64 [v0, v1, .int x, v3, v4] [.int x, w0, w1] h Q := ex_nx (show mx_at 168 63 = some (.iload_n 2, 1) by decide +kernel) rfl
set_option maxRecDepth 20000 in
theorem i168_64 : ex_ X d 168 64 [v0, v1, v2, v3, v4] [w0, w1, w2] h Q = ex_ X d 168 66 [v0, v1, v2, v3, v4] [.int 6, w0, w1, w2] h Q := R_bipush (show mx_at 168 64 = some (.bipush 6, 2) by decide +kernel) (by decide)
set_option maxRecDepth 20000 in
theorem i168_66 : ex_ X (d + 1) 168 66 [v0, v1, v2, v3, v4] [.int x2, .int x1, .ref a0, w0] h Q = ev_ X d 129 [.ref a0, .int x1, .int x2] h (fun r h' => ex_ X (d + 1) 168 69 [v0, v1, v2, v3, v4] (r.toList ++ [w0]) h' Q) := R_stat (show mx_at 168 66 = some (.invokestatic 154, 3) by decide +kernel) (mx_clk ow168 cc12_154) (Nat.le_of_ble_eq_true rfl) rfl rfl (Nat.le_of_ble_eq_true rfl) ml129 (Nat.le_of_ble_eq_true rfl)
set_option maxRecDepth 20000 in
theorem i168_69 : ex_ X d 168 69 [v0, v1, v2, v3, v4] [.int y, .int x] h Q = if y ≤ x then ex_ X d 168 76 [v0, v1, v2, v3, v4] [] h Q else ex_ X d 168 72 [v0, v1, v2, v3, v4] [] h Q := (R_br (show mx_at 168 69 = some (.if_icmp .ge 7, 3) by decide +kernel) rfl rfl).trans mx_ite
set_option maxRecDepth 20000 in
theorem i168_72 : ex_ X d 168 72 [v0, v1, v2, .int x, v4] [] h Q = ex_ X d 168 73 [v0, v1, v2, .int x, v4] [.int x] h Q := ex_nx (show mx_at 168 72 = some (.iload_n 3, 1) by decide +kernel) rfl
set_option maxRecDepth 20000 in
theorem i168_73 : ex_ X d 168 73 [v0, v1, v2, v3, v4] [w0] h Q = ex_ X d 168 77 [v0, v1, v2, v3, v4] [w0] h Q := R_to (show mx_at 168 73 = some (.goto 4, 3) by decide +kernel) rfl rfl
set_option maxRecDepth 20000 in
theorem i168_76 : ex_ X d 168 76 [v0, v1, .int x, v3, v4] [] h Q = ex_ X d 168 77 [v0, v1, .int x, v3, v4] [.int x] h Q := ex_nx (show mx_at 168 76 = some (.iload_n 2, 1) by decide +kernel) rfl
set_option maxRecDepth 20000 in
theorem i168_77 : ex_ X d 168 77 [v0, v1, v2, v3, v4] [.int x] h Q = (mx_nl v1 = true ∧ ex_ X d 168 78 [v0, v1, .int x, v3, v4] [] h Q) := mx_t1 (R_st (ok := mx_isI) (n := 2) (w := 1) (show mx_at 168 77 = some (.istore_n 2, 1) by decide +kernel) (fun _ _ => rfl) (Nat.le_of_ble_eq_true rfl)) rfl
set_option maxRecDepth 20000 in
theorem i168_78 : ex_ X d 168 78 [v0, v1, v2, .int x, v4] [] h Q = (mx_nl v2 = true ∧ ex_ X d 168 81 [v0, v1, v2, .int (x + 1), v4] [] h Q) := R_iinc (n := 3) (c := 1) (show mx_at 168 78 = some (.iinc 3 1, 3) by decide +kernel) rfl
set_option maxRecDepth 20000 in
theorem i168_81 : ex_ X d 168 81 [v0, v1, v2, v3, v4] [] h Q = ex_ X d 168 4 [v0, v1, v2, v3, v4] [] h Q := R_to (show mx_at 168 81 = some (.goto (-77), 3) by decide +kernel) rfl rfl
set_option maxRecDepth 20000 in
theorem i168_84 : ex_ X d 168 84 [v0, v1, .int x, v3, v4] [] h Q = ex_ X d 168 85 [v0, v1, .int x, v3, v4] [.int x] h Q := ex_nx (show mx_at 168 84 = some (.iload_n 2, 1) by decide +kernel) rfl
set_option maxRecDepth 20000 in
theorem i168_85 : ex_ X d 168 85 [v0, v1, v2, v3, v4] [.int x] h Q = Q (some (.int x)) h := ex_ret (show mx_at 168 85 = some (.ireturn, 1) by decide +kernel) (mx_retI rt168)
theorem i168_e : ev_ X d 168 [.ref a, .ref a0] h Q = ex_ X d 168 0 [.ref a, .ref a0, .double 0, .double 0, .double 0] [] h Q := by rw [ev_, ml168]; rfl
-- 169 X12_go
set_option maxRecDepth 20000 in
theorem i169_0 : ex_ X d 169 0 [v0, .ref a, v2, v3, v4, v5, v6, v7] [] h Q = ex_ X d 169 1 [v0, .ref a, v2, v3, v4, v5, v6, v7] [.ref a] h Q := ex_nx (show mx_at 169 0 = some (.aload_n 1, 1) by decide +kernel) rfl
set_option maxRecDepth 20000 in
theorem i169_1 : ex_ X d 169 1 [v0, v1, .int x, v3, v4, v5, v6, v7] [w0] h Q = ex_ X d 169 2 [v0, v1, .int x, v3, v4, v5, v6, v7] [.int x, w0] h Q := ex_nx (show mx_at 169 1 = some (.iload_n 2, 1) by decide +kernel) rfl
set_option maxRecDepth 20000 in
theorem i169_2 : ex_ X d 169 2 [v0, v1, v2, v3, v4, v5, v6, v7] [w0, w1] h Q = ex_ X d 169 3 [v0, v1, v2, v3, v4, v5, v6, v7] [.int 3, w0, w1] h Q := R_iconst (show mx_at 169 2 = some (.iconst 3, 1) by decide +kernel) (by decide)
set_option maxRecDepth 20000 in
theorem i169_3 : ex_ X (d + 1) 169 3 [v0, v1, v2, v3, v4, v5, v6, v7] [.int x2, .int x1, .ref a0] h Q = ev_ X d 130 [.ref a0, .int x1, .int x2] h (fun r h' => ex_ X (d + 1) 169 6 [v0, v1, v2, v3, v4, v5, v6, v7] (r.toList ++ []) h' Q) := R_stat (show mx_at 169 3 = some (.invokestatic 202, 3) by decide +kernel) (mx_clk ow169 cc12_202) (Nat.le_of_ble_eq_true rfl) rfl rfl (Nat.le_of_ble_eq_true rfl) ml130 (Nat.le_of_ble_eq_true rfl)
set_option maxRecDepth 20000 in
theorem i169_6 : ex_ X d 169 6 [v0, .ref a, v2, v3, v4, v5, v6, v7] [w0] h Q = ex_ X d 169 7 [v0, .ref a, v2, v3, v4, v5, v6, v7] [.ref a, w0] h Q := ex_nx (show mx_at 169 6 = some (.aload_n 1, 1) by decide +kernel) rfl
set_option maxRecDepth 20000 in
theorem i169_7 : ex_ X d 169 7 [v0, v1, .int x, v3, v4, v5, v6, v7] [w0, w1] h Q = ex_ X d 169 8 [v0, v1, .int x, v3, v4, v5, v6, v7] [.int x, w0, w1] h Q := ex_nx (show mx_at 169 7 = some (.iload_n 2, 1) by decide +kernel) rfl
set_option maxRecDepth 20000 in
theorem i169_8 : ex_ X d 169 8 [v0, v1, v2, v3, v4, v5, v6, v7] [w0, w1, w2] h Q = ex_ X d 169 9 [v0, v1, v2, v3, v4, v5, v6, v7] [.int 0, w0, w1, w2] h Q := R_iconst (show mx_at 169 8 = some (.iconst 0, 1) by decide +kernel) (by decide)
set_option maxRecDepth 20000 in
theorem i169_9 : ex_ X (d + 1) 169 9 [v0, v1, v2, v3, v4, v5, v6, v7] [.int x2, .int x1, .ref a0, w0] h Q = ev_ X d 130 [.ref a0, .int x1, .int x2] h (fun r h' => ex_ X (d + 1) 169 12 [v0, v1, v2, v3, v4, v5, v6, v7] (r.toList ++ [w0]) h' Q) := R_stat (show mx_at 169 9 = some (.invokestatic 202, 3) by decide +kernel) (mx_clk ow169 cc12_202) (Nat.le_of_ble_eq_true rfl) rfl rfl (Nat.le_of_ble_eq_true rfl) ml130 (Nat.le_of_ble_eq_true rfl)
set_option maxRecDepth 20000 in
theorem i169_12 : ex_ X d 169 12 [v0, v1, v2, v3, v4, v5, v6, v7] [.int y, .int x] h Q = ex_ X d 169 13 [v0, v1, v2, v3, v4, v5, v6, v7] [.int (x + y)] h Q := ex_nx (show mx_at 169 12 = some (.iadd, 1) by decide +kernel) rfl
set_option maxRecDepth 20000 in
theorem i169_13 : ex_ X d 169 13 [v0, v1, v2, v3, v4, v5, v6, v7] [.int x] h Q = (mx_nl v2 = true ∧ ex_ X d 169 14 [v0, v1, v2, .int x, v4, v5, v6, v7] [] h Q) := mx_t1 (R_st (ok := mx_isI) (n := 3) (w := 1) (show mx_at 169 13 = some (.istore_n 3, 1) by decide +kernel) (fun _ _ => rfl) (Nat.le_of_ble_eq_true rfl)) rfl
set_option maxRecDepth 20000 in
theorem i169_14 : ex_ X d 169 14 [v0, .ref a, v2, v3, v4, v5, v6, v7] [] h Q = ex_ X d 169 15 [v0, .ref a, v2, v3, v4, v5, v6, v7] [.ref a] h Q := ex_nx (show mx_at 169 14 = some (.aload_n 1, 1) by decide +kernel) rfl
set_option maxRecDepth 20000 in
theorem i169_15 : ex_ X d 169 15 [v0, v1, .int x, v3, v4, v5, v6, v7] [w0] h Q = ex_ X d 169 16 [v0, v1, .int x, v3, v4, v5, v6, v7] [.int x, w0] h Q := ex_nx (show mx_at 169 15 = some (.iload_n 2, 1) by decide +kernel) rfl
set_option maxRecDepth 20000 in
theorem i169_16 : ex_ X (d + 1) 169 16 [v0, v1, v2, v3, v4, v5, v6, v7] [.int x1, .ref a0] h Q = ev_ X d 163 [.ref a0, .int x1] h (fun r h' => ex_ X (d + 1) 169 19 [v0, v1, v2, v3, v4, v5, v6, v7] (r.toList ++ []) h' Q) := R_stat (show mx_at 169 16 = some (.invokestatic 210, 3) by decide +kernel) (mx_clk ow169 cc12_210) (Nat.le_of_ble_eq_true rfl) rfl rfl (Nat.le_of_ble_eq_true rfl) ml163 (Nat.le_of_ble_eq_true rfl)
set_option maxRecDepth 20000 in
theorem i169_19 : ex_ X d 169 19 [v0, v1, v2, v3, v4, v5, v6, v7] [.int x] h Q = (mx_nl v3 = true ∧ ex_ X d 169 21 [v0, v1, v2, v3, .int x, v5, v6, v7] [] h Q) := mx_t1 (R_st (ok := mx_isI) (n := 4) (w := 2) (show mx_at 169 19 = some (.istore 4, 2) by decide +kernel) (fun _ _ => rfl) (Nat.le_of_ble_eq_true rfl)) rfl
set_option maxRecDepth 20000 in
theorem i169_21 : ex_ X d 169 21 [v0, v1, v2, v3, v4, v5, v6, v7] [] h Q = ex_ X d 169 22 [v0, v1, v2, v3, v4, v5, v6, v7] [.int 0] h Q := R_iconst (show mx_at 169 21 = some (.iconst 0, 1) by decide +kernel) (by decide)
set_option maxRecDepth 20000 in
theorem i169_22 : ex_ X d 169 22 [v0, v1, v2, v3, v4, v5, v6, v7] [.int x] h Q = (mx_nl v4 = true ∧ ex_ X d 169 24 [v0, v1, v2, v3, v4, .int x, v6, v7] [] h Q) := mx_t1 (R_st (ok := mx_isI) (n := 5) (w := 2) (show mx_at 169 22 = some (.istore 5, 2) by decide +kernel) (fun _ _ => rfl) (Nat.le_of_ble_eq_true rfl)) rfl
set_option maxRecDepth 20000 in
theorem i169_24 : ex_ X d 169 24 [v0, v1, v2, v3, v4, .int x, v6, v7] [] h Q = ex_ X d 169 26 [v0, v1, v2, v3, v4, .int x, v6, v7] [.int x] h Q := ex_nx (show mx_at 169 24 = some (.iload 5, 2) by decide +kernel) rfl
set_option maxRecDepth 20000 in
theorem i169_26 : ex_ X d 169 26 [v0, v1, v2, v3, v4, v5, v6, v7] [w0] h Q = ex_ X d 169 28 [v0, v1, v2, v3, v4, v5, v6, v7] [.int 6, w0] h Q := R_bipush (show mx_at 169 26 = some (.bipush 6, 2) by decide +kernel) (by decide)
set_option maxRecDepth 20000 in
theorem i169_28 : ex_ X d 169 28 [v0, v1, v2, v3, v4, v5, v6, v7] [.int y, .int x] h Q = if y ≤ x then ex_ X d 169 45 [v0, v1, v2, v3, v4, v5, v6, v7] [] h Q else ex_ X d 169 31 [v0, v1, v2, v3, v4, v5, v6, v7] [] h Q := (R_br (show mx_at 169 28 = some (.if_icmp .ge 17, 3) by decide +kernel) rfl rfl).trans mx_ite
set_option maxRecDepth 20000 in
theorem i169_31 : ex_ X d 169 31 [.ref a, v1, v2, v3, v4, v5, v6, v7] [] h Q = ex_ X d 169 32 [.ref a, v1, v2, v3, v4, v5, v6, v7] [.ref a] h Q := ex_nx (show mx_at 169 31 = some (.aload_n 0, 1) by decide +kernel) rfl
set_option maxRecDepth 20000 in
theorem i169_32 : ex_ X d 169 32 [v0, v1, v2, v3, v4, v5, v6, v7] [.ref a] h Q = (gk_ h a 15 [(12, 0)] = true ∧ ex_ X d 169 35 [v0, v1, v2, v3, v4, v5, v6, v7] [gv_ h a 15] h Q) := R_getf (show mx_at 169 32 = some (.getfield 31, 3) by decide +kernel) (mx_fdo ow169 fd120031)
set_option maxRecDepth 20000 in
theorem i169_35 : ex_ X d 169 35 [v0, v1, v2, v3, v4, .int x, v6, v7] [w0] h Q = ex_ X d 169 37 [v0, v1, v2, v3, v4, .int x, v6, v7] [.int x, w0] h Q := ex_nx (show mx_at 169 35 = some (.iload 5, 2) by decide +kernel) rfl
set_option maxRecDepth 20000 in
theorem i169_37 : ex_ X d 169 37 [v0, v1, v2, v3, v4, v5, v6, v7] [w0, w1] h Q = ex_ X d 169 38 [v0, v1, v2, v3, v4, v5, v6, v7] [.int 0, w0, w1] h Q := R_iconst (show mx_at 169 37 = some (.iconst 0, 1) by decide +kernel) (by decide)
set_option maxRecDepth 20000 in
theorem i169_38 : ex_ X d 169 38 [v0, v1, v2, v3, v4, v5, v6, v7] [.int x, .int i, .ref a] h Q = (bk_ h a i = true ∧ ex_ X d 169 39 [v0, v1, v2, v3, v4, v5, v6, v7] [] (bs_ h a i x) Q) := R_bast (show mx_at 169 38 = some (.bastore, 1) by decide +kernel)
set_option maxRecDepth 20000 in
theorem i169_39 : ex_ X d 169 39 [v0, v1, v2, v3, v4, .int x, v6, v7] [] h Q = (mx_nl v4 = true ∧ ex_ X d 169 42 [v0, v1, v2, v3, v4, .int (x + 1), v6, v7] [] h Q) := R_iinc (n := 5) (c := 1) (show mx_at 169 39 = some (.iinc 5 1, 3) by decide +kernel) rfl
set_option maxRecDepth 20000 in
theorem i169_42 : ex_ X d 169 42 [v0, v1, v2, v3, v4, v5, v6, v7] [] h Q = ex_ X d 169 24 [v0, v1, v2, v3, v4, v5, v6, v7] [] h Q := R_to (show mx_at 169 42 = some (.goto (-18), 3) by decide +kernel) rfl rfl
set_option maxRecDepth 20000 in
theorem i169_45 : ex_ X d 169 45 [.ref a, v1, v2, v3, v4, v5, v6, v7] [] h Q = ex_ X d 169 46 [.ref a, v1, v2, v3, v4, v5, v6, v7] [.ref a] h Q := ex_nx (show mx_at 169 45 = some (.aload_n 0, 1) by decide +kernel) rfl
set_option maxRecDepth 20000 in
theorem i169_46 : ex_ X d 169 46 [v0, .ref a, v2, v3, v4, v5, v6, v7] [w0] h Q = ex_ X d 169 47 [v0, .ref a, v2, v3, v4, v5, v6, v7] [.ref a, w0] h Q := ex_nx (show mx_at 169 46 = some (.aload_n 1, 1) by decide +kernel) rfl
set_option maxRecDepth 20000 in
theorem i169_47 (hc : co_ h a = some 12) : ex_ X (d + 1) 169 47 [v0, v1, v2, v3, v4, v5, v6, v7] [.ref a0, .ref a] h Q = ev_ X d 168 [.ref a, .ref a0] h (fun r h' => ex_ X (d + 1) 169 50 [v0, v1, v2, v3, v4, v5, v6, v7] (r.toList ++ []) h' Q) := R_vir (show mx_at 169 47 = some (.invokevirtual 220, 3) by decide +kernel) (mx_clk ow169 cc12_220) (Nat.le_of_ble_eq_true rfl) rfl rfl hc rfl (Nat.le_of_ble_eq_true rfl) (Nat.le_of_ble_eq_true rfl) (by rw [ml168]; exact Nat.le_of_ble_eq_true rfl)
set_option maxRecDepth 20000 in
theorem i169_50 : ex_ X d 169 50 [v0, v1, v2, v3, v4, v5, v6, v7] [.int x] h Q = (mx_nl v4 = true ∧ ex_ X d 169 52 [v0, v1, v2, v3, v4, .int x, v6, v7] [] h Q) := mx_t1 (R_st (ok := mx_isI) (n := 5) (w := 2) (show mx_at 169 50 = some (.istore 5, 2) by decide +kernel) (fun _ _ => rfl) (Nat.le_of_ble_eq_true rfl)) rfl
set_option maxRecDepth 20000 in
theorem i169_52 : ex_ X d 169 52 [v0, v1, v2, v3, v4, .int x, v6, v7] [] h Q = ex_ X d 169 54 [v0, v1, v2, v3, v4, .int x, v6, v7] [.int x] h Q := ex_nx (show mx_at 169 52 = some (.iload 5, 2) by decide +kernel) rfl
set_option maxRecDepth 20000 in
theorem i169_54 : ex_ X d 169 54 [v0, v1, v2, v3, v4, v5, v6, v7] [.int x] h Q = if x < 0 then ex_ X d 169 167 [v0, v1, v2, v3, v4, v5, v6, v7] [] h Q else ex_ X d 169 57 [v0, v1, v2, v3, v4, v5, v6, v7] [] h Q := (R_br (show mx_at 169 54 = some (.ifCond .lt 113, 3) by decide +kernel) rfl rfl).trans mx_ite
set_option maxRecDepth 20000 in
theorem i169_57 : ex_ X d 169 57 [v0, v1, v2, .int x, v4, v5, v6, v7] [] h Q = ex_ X d 169 58 [v0, v1, v2, .int x, v4, v5, v6, v7] [.int x] h Q := ex_nx (show mx_at 169 57 = some (.iload_n 3, 1) by decide +kernel) rfl
set_option maxRecDepth 20000 in
theorem i169_58 : ex_ X d 169 58 [v0, v1, v2, v3, v4, v5, v6, v7] [.int x] h Q = if x ≤ 0 then ex_ X d 169 167 [v0, v1, v2, v3, v4, v5, v6, v7] [] h Q else ex_ X d 169 61 [v0, v1, v2, v3, v4, v5, v6, v7] [] h Q := (R_br (show mx_at 169 58 = some (.ifCond .le 109, 3) by decide +kernel) rfl rfl).trans mx_ite
set_option maxRecDepth 20000 in
theorem i169_61 : ex_ X d 169 61 [.ref a, v1, v2, v3, v4, v5, v6, v7] [] h Q = ex_ X d 169 62 [.ref a, v1, v2, v3, v4, v5, v6, v7] [.ref a] h Q := ex_nx (show mx_at 169 61 = some (.aload_n 0, 1) by decide +kernel) rfl
set_option maxRecDepth 20000 in
theorem i169_62 : ex_ X d 169 62 [v0, v1, v2, v3, v4, v5, v6, v7] [.ref a] h Q = (gk_ h a 15 [(12, 0)] = true ∧ ex_ X d 169 65 [v0, v1, v2, v3, v4, v5, v6, v7] [gv_ h a 15] h Q) := R_getf (show mx_at 169 62 = some (.getfield 31, 3) by decide +kernel) (mx_fdo ow169 fd120031)
set_option maxRecDepth 20000 in
theorem i169_65 : ex_ X d 169 65 [v0, v1, v2, v3, v4, .int x, v6, v7] [w0] h Q = ex_ X d 169 67 [v0, v1, v2, v3, v4, .int x, v6, v7] [.int x, w0] h Q := ex_nx (show mx_at 169 65 = some (.iload 5, 2) by decide +kernel) rfl
set_option maxRecDepth 20000 in
theorem i169_67 : ex_ X d 169 67 [v0, v1, v2, v3, v4, v5, v6, v7] [w0, w1] h Q = ex_ X d 169 68 [v0, v1, v2, v3, v4, v5, v6, v7] [.int 1, w0, w1] h Q := R_iconst (show mx_at 169 67 = some (.iconst 1, 1) by decide +kernel) (by decide)
set_option maxRecDepth 20000 in
theorem i169_68 : ex_ X d 169 68 [v0, v1, v2, v3, v4, v5, v6, v7] [.int x, .int i, .ref a] h Q = (bk_ h a i = true ∧ ex_ X d 169 69 [v0, v1, v2, v3, v4, v5, v6, v7] [] (bs_ h a i x) Q) := R_bast (show mx_at 169 68 = some (.bastore, 1) by decide +kernel)
set_option maxRecDepth 20000 in
theorem i169_69 : ex_ X d 169 69 [v0, .ref a, v2, v3, v4, v5, v6, v7] [] h Q = ex_ X d 169 70 [v0, .ref a, v2, v3, v4, v5, v6, v7] [.ref a] h Q := ex_nx (show mx_at 169 69 = some (.aload_n 1, 1) by decide +kernel) rfl
set_option maxRecDepth 20000 in
theorem i169_70 : ex_ X d 169 70 [v0, v1, v2, v3, v4, .int x, v6, v7] [w0] h Q = ex_ X d 169 72 [v0, v1, v2, v3, v4, .int x, v6, v7] [.int x, w0] h Q := ex_nx (show mx_at 169 70 = some (.iload 5, 2) by decide +kernel) rfl
set_option maxRecDepth 20000 in
theorem i169_72 : ex_ X d 169 72 [v0, v1, v2, v3, v4, v5, v6, v7] [w0, w1] h Q = ex_ X d 169 74 [v0, v1, v2, v3, v4, v5, v6, v7] [.int 6, w0, w1] h Q := R_bipush (show mx_at 169 72 = some (.bipush 6, 2) by decide +kernel) (by decide)
set_option maxRecDepth 20000 in
theorem i169_74 : ex_ X (d + 1) 169 74 [v0, v1, v2, v3, v4, v5, v6, v7] [.int x2, .int x1, .ref a0] h Q = ev_ X d 129 [.ref a0, .int x1, .int x2] h (fun r h' => ex_ X (d + 1) 169 77 [v0, v1, v2, v3, v4, v5, v6, v7] (r.toList ++ []) h' Q) := R_stat (show mx_at 169 74 = some (.invokestatic 154, 3) by decide +kernel) (mx_clk ow169 cc12_154) (Nat.le_of_ble_eq_true rfl) rfl rfl (Nat.le_of_ble_eq_true rfl) ml129 (Nat.le_of_ble_eq_true rfl)
set_option maxRecDepth 20000 in
theorem i169_77 : ex_ X d 169 77 [v0, v1, v2, v3, v4, v5, v6, v7] [.int x] h Q = (mx_nl v5 = true ∧ ex_ X d 169 79 [v0, v1, v2, v3, v4, v5, .int x, v7] [] h Q) := mx_t1 (R_st (ok := mx_isI) (n := 6) (w := 2) (show mx_at 169 77 = some (.istore 6, 2) by decide +kernel) (fun _ _ => rfl) (Nat.le_of_ble_eq_true rfl)) rfl
set_option maxRecDepth 20000 in
theorem i169_79 : ex_ X d 169 79 [.ref a, v1, v2, v3, v4, v5, v6, v7] [] h Q = ex_ X d 169 80 [.ref a, v1, v2, v3, v4, v5, v6, v7] [.ref a] h Q := ex_nx (show mx_at 169 79 = some (.aload_n 0, 1) by decide +kernel) rfl
set_option maxRecDepth 20000 in
theorem i169_80 : ex_ X d 169 80 [v0, v1, v2, v3, v4, v5, v6, v7] [w0] h Q = ex_ X d 169 81 [v0, v1, v2, v3, v4, v5, v6, v7] [.int 1, w0] h Q := R_iconst (show mx_at 169 80 = some (.iconst 1, 1) by decide +kernel) (by decide)
set_option maxRecDepth 20000 in
theorem i169_81 : ex_ X d 169 81 [v0, v1, v2, v3, v4, v5, .int x, v7] [w0, w1] h Q = ex_ X d 169 83 [v0, v1, v2, v3, v4, v5, .int x, v7] [.int x, w0, w1] h Q := ex_nx (show mx_at 169 81 = some (.iload 6, 2) by decide +kernel) rfl
set_option maxRecDepth 20000 in
theorem i169_83 : ex_ X d 169 83 [v0, v1, v2, v3, .int x, v5, v6, v7] [w0, w1, w2] h Q = ex_ X d 169 85 [v0, v1, v2, v3, .int x, v5, v6, v7] [.int x, w0, w1, w2] h Q := ex_nx (show mx_at 169 83 = some (.iload 4, 2) by decide +kernel) rfl
set_option maxRecDepth 20000 in
theorem i169_85 : ex_ X d 169 85 [v0, .ref a, v2, v3, v4, v5, v6, v7] [w0, w1, w2, w3] h Q = ex_ X d 169 86 [v0, .ref a, v2, v3, v4, v5, v6, v7] [.ref a, w0, w1, w2, w3] h Q := ex_nx (show mx_at 169 85 = some (.aload_n 1, 1) by decide +kernel) rfl
set_option maxRecDepth 20000 in
theorem i169_86 : ex_ X d 169 86 [v0, v1, .int x, v3, v4, v5, v6, v7] [w0, w1, w2, w3, w4] h Q = ex_ X d 169 87 [v0, v1, .int x, v3, v4, v5, v6, v7] [.int x, w0, w1, w2, w3, w4] h Q := ex_nx (show mx_at 169 86 = some (.iload_n 2, 1) by decide +kernel) rfl
set_option maxRecDepth 20000 in
theorem i169_87 : ex_ X d 169 87 [v0, v1, v2, v3, v4, v5, v6, v7] [w0, w1, w2, w3, w4, w5] h Q = ex_ X d 169 88 [v0, v1, v2, v3, v4, v5, v6, v7] [.int 2, w0, w1, w2, w3, w4, w5] h Q := R_iconst (show mx_at 169 87 = some (.iconst 2, 1) by decide +kernel) (by decide)
set_option maxRecDepth 20000 in
theorem i169_88 : ex_ X (d + 1) 169 88 [v0, v1, v2, v3, v4, v5, v6, v7] [.int x2, .int x1, .ref a0, w0, w1, w2, w3] h Q = ev_ X d 130 [.ref a0, .int x1, .int x2] h (fun r h' => ex_ X (d + 1) 169 91 [v0, v1, v2, v3, v4, v5, v6, v7] (r.toList ++ [w0, w1, w2, w3]) h' Q) := R_stat (show mx_at 169 88 = some (.invokestatic 202, 3) by decide +kernel) (mx_clk ow169 cc12_202) (Nat.le_of_ble_eq_true rfl) rfl rfl (Nat.le_of_ble_eq_true rfl) ml130 (Nat.le_of_ble_eq_true rfl)
set_option maxRecDepth 20000 in
theorem i169_91 : ex_ X d 169 91 [v0, .ref a, v2, v3, v4, v5, v6, v7] [w0, w1, w2, w3, w4] h Q = ex_ X d 169 92 [v0, .ref a, v2, v3, v4, v5, v6, v7] [.ref a, w0, w1, w2, w3, w4] h Q := ex_nx (show mx_at 169 91 = some (.aload_n 1, 1) by decide +kernel) rfl
set_option maxRecDepth 20000 in
theorem i169_92 : ex_ X d 169 92 [v0, v1, v2, v3, v4, v5, v6, v7] [w0, w1, w2, w3, w4, w5] h Q = ex_ X d 169 93 [v0, v1, v2, v3, v4, v5, v6, v7] [.int 0, w0, w1, w2, w3, w4, w5] h Q := R_iconst (show mx_at 169 92 = some (.iconst 0, 1) by decide +kernel) (by decide)
set_option maxRecDepth 20000 in
theorem i169_93 : ex_ X d 169 93 [v0, v1, v2, v3, v4, v5, v6, v7] [.int i, .ref a, w0, w1, w2, w3, w4] h Q = (ik_ h a i = true ∧ ex_ X d 169 94 [v0, v1, v2, v3, v4, v5, v6, v7] [.int (ia_ h a i), w0, w1, w2, w3, w4] h Q) := R_iald (show mx_at 169 93 = some (.iaload, 1) by decide +kernel)
set_option maxRecDepth 20000 in
theorem i169_94 (hc : co_ h a = some 12) : ex_ X (d + 1) 169 94 [v0, v1, v2, v3, v4, v5, v6, v7] [.int x4, .int x3, .int x2, .int x1, .int x0, .ref a] h Q = ev_ X d 148 [.ref a, .int x0, .int x1, .int x2, .int x3, .int x4] h (fun r h' => ex_ X (d + 1) 169 97 [v0, v1, v2, v3, v4, v5, v6, v7] (r.toList ++ []) h' Q) := R_vir (show mx_at 169 94 = some (.invokevirtual 144, 3) by decide +kernel) (mx_clk ow169 cc12_144) (Nat.le_of_ble_eq_true rfl) rfl rfl hc rfl (Nat.le_of_ble_eq_true rfl) (Nat.le_of_ble_eq_true rfl) (by rw [ml148]; exact Nat.le_of_ble_eq_true rfl)
set_option maxRecDepth 20000 in
theorem i169_97 : ex_ X d 169 97 [v0, v1, v2, v3, v4, v5, v6, v7] [.int x] h Q = if x = 0 then ex_ X d 169 157 [v0, v1, v2, v3, v4, v5, v6, v7] [] h Q else ex_ X d 169 100 [v0, v1, v2, v3, v4, v5, v6, v7] [] h Q := (R_br (show mx_at 169 97 = some (.ifCond .eq 60, 3) by decide +kernel) rfl rfl).trans mx_ite
set_option maxRecDepth 20000 in
theorem i169_100 : ex_ X d 169 100 [v0, v1, v2, .int x, v4, v5, v6, v7] [] h Q = ex_ X d 169 101 [v0, v1, v2, .int x, v4, v5, v6, v7] [.int x] h Q := ex_nx (show mx_at 169 100 = some (.iload_n 3, 1) by decide +kernel) rfl
set_option maxRecDepth 20000 in
theorem i169_101 : ex_ X d 169 101 [v0, .ref a, v2, v3, v4, v5, v6, v7] [w0] h Q = ex_ X d 169 102 [v0, .ref a, v2, v3, v4, v5, v6, v7] [.ref a, w0] h Q := ex_nx (show mx_at 169 101 = some (.aload_n 1, 1) by decide +kernel) rfl
set_option maxRecDepth 20000 in
theorem i169_102 : ex_ X d 169 102 [v0, v1, v2, v3, v4, .int x, v6, v7] [w0, w1] h Q = ex_ X d 169 104 [v0, v1, v2, v3, v4, .int x, v6, v7] [.int x, w0, w1] h Q := ex_nx (show mx_at 169 102 = some (.iload 5, 2) by decide +kernel) rfl
set_option maxRecDepth 20000 in
theorem i169_104 : ex_ X d 169 104 [v0, v1, v2, v3, v4, v5, v6, v7] [w0, w1, w2] h Q = ex_ X d 169 105 [v0, v1, v2, v3, v4, v5, v6, v7] [.int 4, w0, w1, w2] h Q := R_iconst (show mx_at 169 104 = some (.iconst 4, 1) by decide +kernel) (by decide)
set_option maxRecDepth 20000 in
theorem i169_105 : ex_ X (d + 1) 169 105 [v0, v1, v2, v3, v4, v5, v6, v7] [.int x2, .int x1, .ref a0, w0] h Q = ev_ X d 129 [.ref a0, .int x1, .int x2] h (fun r h' => ex_ X (d + 1) 169 108 [v0, v1, v2, v3, v4, v5, v6, v7] (r.toList ++ [w0]) h' Q) := R_stat (show mx_at 169 105 = some (.invokestatic 154, 3) by decide +kernel) (mx_clk ow169 cc12_154) (Nat.le_of_ble_eq_true rfl) rfl rfl (Nat.le_of_ble_eq_true rfl) ml129 (Nat.le_of_ble_eq_true rfl)
set_option maxRecDepth 20000 in
theorem i169_108 : ex_ X d 169 108 [v0, v1, v2, v3, v4, v5, v6, v7] [.int y, .int x] h Q = if y ≤ x then ex_ X d 169 115 [v0, v1, v2, v3, v4, v5, v6, v7] [] h Q else ex_ X d 169 111 [v0, v1, v2, v3, v4, v5, v6, v7] [] h Q := (R_br (show mx_at 169 108 = some (.if_icmp .ge 7, 3) by decide +kernel) rfl rfl).trans mx_ite
set_option maxRecDepth 20000 in
theorem i169_111 : ex_ X d 169 111 [v0, v1, v2, .int x, v4, v5, v6, v7] [] h Q = ex_ X d 169 112 [v0, v1, v2, .int x, v4, v5, v6, v7] [.int x] h Q := ex_nx (show mx_at 169 111 = some (.iload_n 3, 1) by decide +kernel) rfl
set_option maxRecDepth 20000 in
theorem i169_112 : ex_ X d 169 112 [v0, v1, v2, v3, v4, v5, v6, v7] [w0] h Q = ex_ X d 169 122 [v0, v1, v2, v3, v4, v5, v6, v7] [w0] h Q := R_to (show mx_at 169 112 = some (.goto 10, 3) by decide +kernel) rfl rfl
set_option maxRecDepth 20000 in
theorem i169_115 : ex_ X d 169 115 [v0, .ref a, v2, v3, v4, v5, v6, v7] [] h Q = ex_ X d 169 116 [v0, .ref a, v2, v3, v4, v5, v6, v7] [.ref a] h Q := ex_nx (show mx_at 169 115 = some (.aload_n 1, 1) by decide +kernel) rfl
set_option maxRecDepth 20000 in
theorem i169_116 : ex_ X d 169 116 [v0, v1, v2, v3, v4, .int x, v6, v7] [w0] h Q = ex_ X d 169 118 [v0, v1, v2, v3, v4, .int x, v6, v7] [.int x, w0] h Q := ex_nx (show mx_at 169 116 = some (.iload 5, 2) by decide +kernel) rfl
set_option maxRecDepth 20000 in
theorem i169_118 : ex_ X d 169 118 [v0, v1, v2, v3, v4, v5, v6, v7] [w0, w1] h Q = ex_ X d 169 119 [v0, v1, v2, v3, v4, v5, v6, v7] [.int 4, w0, w1] h Q := R_iconst (show mx_at 169 118 = some (.iconst 4, 1) by decide +kernel) (by decide)
set_option maxRecDepth 20000 in
theorem i169_119 : ex_ X (d + 1) 169 119 [v0, v1, v2, v3, v4, v5, v6, v7] [.int x2, .int x1, .ref a0] h Q = ev_ X d 129 [.ref a0, .int x1, .int x2] h (fun r h' => ex_ X (d + 1) 169 122 [v0, v1, v2, v3, v4, v5, v6, v7] (r.toList ++ []) h' Q) := R_stat (show mx_at 169 119 = some (.invokestatic 154, 3) by decide +kernel) (mx_clk ow169 cc12_154) (Nat.le_of_ble_eq_true rfl) rfl rfl (Nat.le_of_ble_eq_true rfl) ml129 (Nat.le_of_ble_eq_true rfl)
set_option maxRecDepth 20000 in
theorem i169_122 : ex_ X d 169 122 [v0, v1, v2, v3, v4, v5, v6, v7] [.int x] h Q = (mx_nl v6 = true ∧ ex_ X d 169 124 [v0, v1, v2, v3, v4, v5, v6, .int x] [] h Q) := mx_t1 (R_st (ok := mx_isI) (n := 7) (w := 2) (show mx_at 169 122 = some (.istore 7, 2) by decide +kernel) (fun _ _ => rfl) (Nat.le_of_ble_eq_true rfl)) rfl
set_option maxRecDepth 20000 in
theorem i169_124 : ex_ X d 169 124 [v0, .ref a, v2, v3, v4, v5, v6, v7] [] h Q = ex_ X d 169 125 [v0, .ref a, v2, v3, v4, v5, v6, v7] [.ref a] h Q := ex_nx (show mx_at 169 124 = some (.aload_n 1, 1) by decide +kernel) rfl
set_option maxRecDepth 20000 in
theorem i169_125 : ex_ X d 169 125 [v0, v1, v2, v3, v4, v5, v6, v7] [w0] h Q = ex_ X d 169 127 [v0, v1, v2, v3, v4, v5, v6, v7] [.int 20, w0] h Q := R_bipush (show mx_at 169 125 = some (.bipush 20, 2) by decide +kernel) (by decide)
set_option maxRecDepth 20000 in
theorem i169_127 : ex_ X d 169 127 [v0, v1, v2, v3, v4, v5, v6, v7] [w0, w1] h Q = ex_ X d 169 129 [v0, v1, v2, v3, v4, v5, v6, v7] [.int 8, w0, w1] h Q := R_bipush (show mx_at 169 127 = some (.bipush 8, 2) by decide +kernel) (by decide)
set_option maxRecDepth 20000 in
theorem i169_129 : ex_ X d 169 129 [v0, v1, v2, v3, v4, .int x, v6, v7] [w0, w1, w2] h Q = ex_ X d 169 131 [v0, v1, v2, v3, v4, .int x, v6, v7] [.int x, w0, w1, w2] h Q := ex_nx (show mx_at 169 129 = some (.iload 5, 2) by decide +kernel) rfl
set_option maxRecDepth 20000 in
theorem i169_131 : ex_ X d 169 131 [v0, v1, v2, v3, v4, v5, v6, v7] [.int y, .int x, w0, w1] h Q = ex_ X d 169 132 [v0, v1, v2, v3, v4, v5, v6, v7] [.int (x * y), w0, w1] h Q := ex_nx (show mx_at 169 131 = some (.imul, 1) by decide +kernel) rfl
set_option maxRecDepth 20000 in
theorem i169_132 : ex_ X d 169 132 [v0, v1, v2, v3, v4, v5, v6, v7] [.int y, .int x, w0] h Q = ex_ X d 169 133 [v0, v1, v2, v3, v4, v5, v6, v7] [.int (x + y), w0] h Q := ex_nx (show mx_at 169 132 = some (.iadd, 1) by decide +kernel) rfl
set_option maxRecDepth 20000 in
theorem i169_133 : ex_ X d 169 133 [v0, v1, v2, v3, v4, v5, v6, v7] [w0, w1] h Q = ex_ X d 169 134 [v0, v1, v2, v3, v4, v5, v6, v7] [.int 4, w0, w1] h Q := R_iconst (show mx_at 169 133 = some (.iconst 4, 1) by decide +kernel) (by decide)
set_option maxRecDepth 20000 in
theorem i169_134 : ex_ X d 169 134 [v0, v1, v2, v3, v4, v5, v6, v7] [.int y, .int x, w0] h Q = ex_ X d 169 135 [v0, v1, v2, v3, v4, v5, v6, v7] [.int (x + y), w0] h Q := ex_nx (show mx_at 169 134 = some (.iadd, 1) by decide +kernel) rfl
set_option maxRecDepth 20000 in
theorem i169_135 : ex_ X d 169 135 [v0, v1, v2, v3, v4, v5, v6, v7] [.int x, .ref a] h Q = ex_ X d 169 136 [v0, v1, v2, v3, v4, v5, v6, v7] [.int x, .ref a, .int x, .ref a] h Q := ex_nx (show mx_at 169 135 = some (.dup2, 1) by decide +kernel) rfl
set_option maxRecDepth 20000 in
theorem i169_136 : ex_ X d 169 136 [v0, v1, v2, v3, v4, v5, v6, v7] [.int i, .ref a, w0, w1] h Q = (ik_ h a i = true ∧ ex_ X d 169 137 [v0, v1, v2, v3, v4, v5, v6, v7] [.int (ia_ h a i), w0, w1] h Q) := R_iald (show mx_at 169 136 = some (.iaload, 1) by decide +kernel)
set_option maxRecDepth 20000 in
theorem i169_137 : ex_ X d 169 137 [v0, v1, v2, v3, v4, v5, v6, .int x] [w0, w1, w2] h Q = ex_ X d 169 139 [v0, v1, v2, v3, v4, v5, v6, .int x] [.int x, w0, w1, w2] h Q := ex_nx (show mx_at 169 137 = some (.iload 7, 2) by decide +kernel) rfl
set_option maxRecDepth 20000 in
theorem i169_139 : ex_ X d 169 139 [v0, v1, v2, v3, v4, v5, v6, v7] [.int y, .int x, w0, w1] h Q = ex_ X d 169 140 [v0, v1, v2, v3, v4, v5, v6, v7] [.int (x - y), w0, w1] h Q := ex_nx (show mx_at 169 139 = some (.isub, 1) by decide +kernel) rfl
set_option maxRecDepth 20000 in
theorem i169_140 : ex_ X d 169 140 [v0, v1, v2, v3, v4, v5, v6, v7] [.int x, .int i, .ref a] h Q = (ik_ h a i = true ∧ ex_ X d 169 141 [v0, v1, v2, v3, v4, v5, v6, v7] [] (is_ h a i x) Q) := R_iast (show mx_at 169 140 = some (.iastore, 1) by decide +kernel)
set_option maxRecDepth 20000 in
theorem i169_141 : ex_ X d 169 141 [v0, .ref a, v2, v3, v4, v5, v6, v7] [] h Q = ex_ X d 169 142 [v0, .ref a, v2, v3, v4, v5, v6, v7] [.ref a] h Q := ex_nx (show mx_at 169 141 = some (.aload_n 1, 1) by decide +kernel) rfl
set_option maxRecDepth 20000 in
theorem i169_142 : ex_ X d 169 142 [v0, v1, v2, v3, v4, .int x, v6, v7] [w0] h Q = ex_ X d 169 144 [v0, v1, v2, v3, v4, .int x, v6, v7] [.int x, w0] h Q := ex_nx (show mx_at 169 142 = some (.iload 5, 2) by decide +kernel) rfl
set_option maxRecDepth 20000 in
theorem i169_144 : ex_ X d 169 144 [v0, v1, v2, v3, v4, v5, v6, .int x] [w0, w1] h Q = ex_ X d 169 146 [v0, v1, v2, v3, v4, v5, v6, .int x] [.int x, w0, w1] h Q := ex_nx (show mx_at 169 144 = some (.iload 7, 2) by decide +kernel) rfl
set_option maxRecDepth 20000 in
theorem i169_146 : ex_ X d 169 146 [v0, v1, v2, v3, v4, v5, .int x, v7] [w0, w1, w2] h Q = ex_ X d 169 148 [v0, v1, v2, v3, v4, v5, .int x, v7] [.int x, w0, w1, w2] h Q := ex_nx (show mx_at 169 146 = some (.iload 6, 2) by decide +kernel) rfl
set_option maxRecDepth 20000 in
theorem i169_148 : ex_ X d 169 148 [v0, v1, v2, v3, v4, v5, v6, v7] [.int y, .int x, w0, w1] h Q = ex_ X d 169 149 [v0, v1, v2, v3, v4, v5, v6, v7] [.int (x * y), w0, w1] h Q := ex_nx (show mx_at 169 148 = some (.imul, 1) by decide +kernel) rfl
set_option maxRecDepth 20000 in
theorem i169_149 : ex_ X (d + 1) 169 149 [v0, v1, v2, v3, v4, v5, v6, v7] [.int x2, .int x1, .ref a0] h Q = ev_ X d 167 [.ref a0, .int x1, .int x2] h (fun r h' => ex_ X (d + 1) 169 152 [v0, v1, v2, v3, v4, v5, v6, v7] (r.toList ++ []) h' Q) := R_stat (show mx_at 169 149 = some (.invokestatic 224, 3) by decide +kernel) (mx_clk ow169 cc12_224) (Nat.le_of_ble_eq_true rfl) rfl rfl (Nat.le_of_ble_eq_true rfl) ml167 (Nat.le_of_ble_eq_true rfl)
set_option maxRecDepth 20000 in
theorem i169_152 : ex_ X d 169 152 [v0, v1, v2, .int x, v4, v5, v6, v7] [] h Q = ex_ X d 169 153 [v0, v1, v2, .int x, v4, v5, v6, v7] [.int x] h Q := ex_nx (show mx_at 169 152 = some (.iload_n 3, 1) by decide +kernel) rfl
set_option maxRecDepth 20000 in
theorem i169_153 : ex_ X d 169 153 [v0, v1, v2, v3, v4, v5, v6, .int x] [w0] h Q = ex_ X d 169 155 [v0, v1, v2, v3, v4, v5, v6, .int x] [.int x, w0] h Q := ex_nx (show mx_at 169 153 = some (.iload 7, 2) by decide +kernel) rfl
set_option maxRecDepth 20000 in
theorem i169_155 : ex_ X d 169 155 [v0, v1, v2, v3, v4, v5, v6, v7] [.int y, .int x] h Q = ex_ X d 169 156 [v0, v1, v2, v3, v4, v5, v6, v7] [.int (x - y)] h Q := ex_nx (show mx_at 169 155 = some (.isub, 1) by decide +kernel) rfl
set_option maxRecDepth 20000 in
theorem i169_156 : ex_ X d 169 156 [v0, v1, v2, v3, v4, v5, v6, v7] [.int x] h Q = (mx_nl v2 = true ∧ ex_ X d 169 157 [v0, v1, v2, .int x, v4, v5, v6, v7] [] h Q) := mx_t1 (R_st (ok := mx_isI) (n := 3) (w := 1) (show mx_at 169 156 = some (.istore_n 3, 1) by decide +kernel) (fun _ _ => rfl) (Nat.le_of_ble_eq_true rfl)) rfl
set_option maxRecDepth 20000 in
theorem i169_157 : ex_ X d 169 157 [.ref a, v1, v2, v3, v4, v5, v6, v7] [] h Q = ex_ X d 169 158 [.ref a, v1, v2, v3, v4, v5, v6, v7] [.ref a] h Q := ex_nx (show mx_at 169 157 = some (.aload_n 0, 1) by decide +kernel) rfl
set_option maxRecDepth 20000 in
theorem i169_158 : ex_ X d 169 158 [v0, .ref a, v2, v3, v4, v5, v6, v7] [w0] h Q = ex_ X d 169 159 [v0, .ref a, v2, v3, v4, v5, v6, v7] [.ref a, w0] h Q := ex_nx (show mx_at 169 158 = some (.aload_n 1, 1) by decide +kernel) rfl
set_option maxRecDepth 20000 in
theorem i169_159 (hc : co_ h a = some 12) : ex_ X (d + 1) 169 159 [v0, v1, v2, v3, v4, v5, v6, v7] [.ref a0, .ref a] h Q = ev_ X d 168 [.ref a, .ref a0] h (fun r h' => ex_ X (d + 1) 169 162 [v0, v1, v2, v3, v4, v5, v6, v7] (r.toList ++ []) h' Q) := R_vir (show mx_at 169 159 = some (.invokevirtual 220, 3) by decide +kernel) (mx_clk ow169 cc12_220) (Nat.le_of_ble_eq_true rfl) rfl rfl hc rfl (Nat.le_of_ble_eq_true rfl) (Nat.le_of_ble_eq_true rfl) (by rw [ml168]; exact Nat.le_of_ble_eq_true rfl)
set_option maxRecDepth 20000 in
theorem i169_162 : ex_ X d 169 162 [v0, v1, v2, v3, v4, v5, v6, v7] [.int x] h Q = (mx_nl v4 = true ∧ ex_ X d 169 164 [v0, v1, v2, v3, v4, .int x, v6, v7] [] h Q) := mx_t1 (R_st (ok := mx_isI) (n := 5) (w := 2) (show mx_at 169 162 = some (.istore 5, 2) by decide +kernel) (fun _ _ => rfl) (Nat.le_of_ble_eq_true rfl)) rfl
set_option maxRecDepth 20000 in
theorem i169_164 : ex_ X d 169 164 [v0, v1, v2, v3, v4, v5, v6, v7] [] h Q = ex_ X d 169 52 [v0, v1, v2, v3, v4, v5, v6, v7] [] h Q := R_to (show mx_at 169 164 = some (.goto (-112), 3) by decide +kernel) rfl rfl
set_option maxRecDepth 20000 in
theorem i169_167 : ex_ X d 169 167 [v0, .ref a, v2, v3, v4, v5, v6, v7] [] h Q = ex_ X d 169 168 [v0, .ref a, v2, v3, v4, v5, v6, v7] [.ref a] h Q := ex_nx (show mx_at 169 167 = some (.aload_n 1, 1) by decide +kernel) rfl
set_option maxRecDepth 20000 in
theorem i169_168 : ex_ X d 169 168 [v0, v1, v2, v3, v4, v5, v6, v7] [w0] h Q = ex_ X d 169 170 [v0, v1, v2, v3, v4, v5, v6, v7] [.int 70, w0] h Q := R_bipush (show mx_at 169 168 = some (.bipush 70, 2) by decide +kernel) (by decide)
set_option maxRecDepth 20000 in
theorem i169_170 : ex_ X d 169 170 [v0, v1, v2, v3, v4, v5, v6, v7] [w0, w1] h Q = ex_ X d 169 171 [v0, v1, v2, v3, v4, v5, v6, v7] [.int 4, w0, w1] h Q := R_iconst (show mx_at 169 170 = some (.iconst 4, 1) by decide +kernel) (by decide)
set_option maxRecDepth 20000 in
theorem i169_171 : ex_ X d 169 171 [v0, v1, .int x, v3, v4, v5, v6, v7] [w0, w1, w2] h Q = ex_ X d 169 172 [v0, v1, .int x, v3, v4, v5, v6, v7] [.int x, w0, w1, w2] h Q := ex_nx (show mx_at 169 171 = some (.iload_n 2, 1) by decide +kernel) rfl
set_option maxRecDepth 20000 in
theorem i169_172 : ex_ X d 169 172 [v0, v1, v2, v3, v4, v5, v6, v7] [.int y, .int x, w0, w1] h Q = ex_ X d 169 173 [v0, v1, v2, v3, v4, v5, v6, v7] [.int (x * y), w0, w1] h Q := ex_nx (show mx_at 169 172 = some (.imul, 1) by decide +kernel) rfl
set_option maxRecDepth 20000 in
theorem i169_173 : ex_ X d 169 173 [v0, v1, v2, v3, v4, v5, v6, v7] [.int y, .int x, w0] h Q = ex_ X d 169 174 [v0, v1, v2, v3, v4, v5, v6, v7] [.int (x + y), w0] h Q := ex_nx (show mx_at 169 173 = some (.iadd, 1) by decide +kernel) rfl
set_option maxRecDepth 20000 in
theorem i169_174 : ex_ X d 169 174 [v0, v1, v2, v3, v4, v5, v6, v7] [w0, w1] h Q = ex_ X d 169 175 [v0, v1, v2, v3, v4, v5, v6, v7] [.int 3, w0, w1] h Q := R_iconst (show mx_at 169 174 = some (.iconst 3, 1) by decide +kernel) (by decide)
set_option maxRecDepth 20000 in
theorem i169_175 : ex_ X d 169 175 [v0, v1, v2, v3, v4, v5, v6, v7] [.int y, .int x, w0] h Q = ex_ X d 169 176 [v0, v1, v2, v3, v4, v5, v6, v7] [.int (x + y), w0] h Q := ex_nx (show mx_at 169 175 = some (.iadd, 1) by decide +kernel) rfl
set_option maxRecDepth 20000 in
theorem i169_176 : ex_ X d 169 176 [v0, .ref a, v2, v3, v4, v5, v6, v7] [w0, w1] h Q = ex_ X d 169 177 [v0, .ref a, v2, v3, v4, v5, v6, v7] [.ref a, w0, w1] h Q := ex_nx (show mx_at 169 176 = some (.aload_n 1, 1) by decide +kernel) rfl
set_option maxRecDepth 20000 in
theorem i169_177 : ex_ X d 169 177 [v0, v1, .int x, v3, v4, v5, v6, v7] [w0, w1, w2] h Q = ex_ X d 169 178 [v0, v1, .int x, v3, v4, v5, v6, v7] [.int x, w0, w1, w2] h Q := ex_nx (show mx_at 169 177 = some (.iload_n 2, 1) by decide +kernel) rfl
set_option maxRecDepth 20000 in
theorem i169_178 : ex_ X d 169 178 [v0, v1, v2, v3, v4, v5, v6, v7] [w0, w1, w2, w3] h Q = ex_ X d 169 179 [v0, v1, v2, v3, v4, v5, v6, v7] [.int 2, w0, w1, w2, w3] h Q := R_iconst (show mx_at 169 178 = some (.iconst 2, 1) by decide +kernel) (by decide)
set_option maxRecDepth 20000 in
theorem i169_179 : ex_ X (d + 1) 169 179 [v0, v1, v2, v3, v4, v5, v6, v7] [.int x2, .int x1, .ref a0, w0, w1] h Q = ev_ X d 130 [.ref a0, .int x1, .int x2] h (fun r h' => ex_ X (d + 1) 169 182 [v0, v1, v2, v3, v4, v5, v6, v7] (r.toList ++ [w0, w1]) h' Q) := R_stat (show mx_at 169 179 = some (.invokestatic 202, 3) by decide +kernel) (mx_clk ow169 cc12_202) (Nat.le_of_ble_eq_true rfl) rfl rfl (Nat.le_of_ble_eq_true rfl) ml130 (Nat.le_of_ble_eq_true rfl)
set_option maxRecDepth 20000 in
theorem i169_182 : ex_ X d 169 182 [v0, v1, v2, v3, v4, v5, v6, v7] [.int x, w0, w1] h Q = if ¬ x = 0 then ex_ X d 169 189 [v0, v1, v2, v3, v4, v5, v6, v7] [w0, w1] h Q else ex_ X d 169 185 [v0, v1, v2, v3, v4, v5, v6, v7] [w0, w1] h Q := (R_br (show mx_at 169 182 = some (.ifCond .ne 7, 3) by decide +kernel) rfl rfl).trans mx_ite
set_option maxRecDepth 20000 in
theorem i169_185 : ex_ X d 169 185 [v0, v1, v2, v3, v4, v5, v6, v7] [w0, w1] h Q = ex_ X d 169 186 [v0, v1, v2, v3, v4, v5, v6, v7] [.int 0, w0, w1] h Q := R_iconst (show mx_at 169 185 = some (.iconst 0, 1) by decide +kernel) (by decide)
set_option maxRecDepth 20000 in
theorem i169_186 : ex_ X d 169 186 [v0, v1, v2, v3, v4, v5, v6, v7] [w0, w1, w2] h Q = ex_ X d 169 196 [v0, v1, v2, v3, v4, v5, v6, v7] [w0, w1, w2] h Q := R_to (show mx_at 169 186 = some (.goto 10, 3) by decide +kernel) rfl rfl
set_option maxRecDepth 20000 in
theorem i169_189 : ex_ X d 169 189 [v0, v1, v2, .int x, v4, v5, v6, v7] [w0, w1] h Q = ex_ X d 169 190 [v0, v1, v2, .int x, v4, v5, v6, v7] [.int x, w0, w1] h Q := ex_nx (show mx_at 169 189 = some (.iload_n 3, 1) by decide +kernel) rfl
set_option maxRecDepth 20000 in
theorem i169_190 : ex_ X d 169 190 [v0, v1, v2, v3, v4, v5, v6, v7] [w0, w1, w2] h Q = ex_ X d 169 191 [v0, v1, v2, v3, v4, v5, v6, v7] [.int 0, w0, w1, w2] h Q := R_iconst (show mx_at 169 190 = some (.iconst 0, 1) by decide +kernel) (by decide)
set_option maxRecDepth 20000 in
theorem i169_191 : ex_ X d 169 191 [v0, v1, v2, v3, v4, v5, v6, v7] [w0, w1, w2, w3] h Q = ex_ X d 169 193 [v0, v1, v2, v3, v4, v5, v6, v7] [.int 99, w0, w1, w2, w3] h Q := R_bipush (show mx_at 169 191 = some (.bipush 99, 2) by decide +kernel) (by decide)
set_option maxRecDepth 20000 in
theorem i169_193 : ex_ X (d + 1) 169 193 [v0, v1, v2, v3, v4, v5, v6, v7] [.int x2, .int x1, .int x0, w0, w1] h Q = ev_ X d 125 [.int x0, .int x1, .int x2] h (fun r h' => ex_ X (d + 1) 169 196 [v0, v1, v2, v3, v4, v5, v6, v7] (r.toList ++ [w0, w1]) h' Q) := R_stat (show mx_at 169 193 = some (.invokestatic 162, 3) by decide +kernel) (mx_clk ow169 cc12_162) (Nat.le_of_ble_eq_true rfl) rfl rfl (Nat.le_of_ble_eq_true rfl) ml125 (Nat.le_of_ble_eq_true rfl)
set_option maxRecDepth 20000 in
theorem i169_196 : ex_ X d 169 196 [v0, v1, v2, v3, v4, v5, v6, v7] [.int x, .int i, .ref a] h Q = (ik_ h a i = true ∧ ex_ X d 169 197 [v0, v1, v2, v3, v4, v5, v6, v7] [] (is_ h a i x) Q) := R_iast (show mx_at 169 196 = some (.iastore, 1) by decide +kernel)
set_option maxRecDepth 20000 in
theorem i169_197 : ex_ X d 169 197 [v0, v1, v2, v3, v4, v5, v6, v7] [] h Q = Q none h := ex_ret (show mx_at 169 197 = some (.return_, 1) by decide +kernel) (mx_retV rt169)
theorem i169_e : ev_ X d 169 [.ref a, .ref a0, .int x1] h Q = ex_ X d 169 0 [.ref a, .ref a0, .int x1, .double 0, .double 0, .double 0, .double 0, .double 0] [] h Q := by rw [ev_, ml169]; rfl
-- 170 X12_goesBy
set_option maxRecDepth 20000 in
theorem i170_0 : ex_ X d 170 0 [v0, v1, v2, v3] [] h Q = ex_ X d 170 1 [v0, v1, v2, v3] [.int 0] h Q := R_iconst (show mx_at 170 0 = some (.iconst 0, 1) by decide +kernel) (by decide)
set_option maxRecDepth 20000 in
theorem i170_1 : ex_ X d 170 1 [v0, v1, v2, v3] [.int x] h Q = (mx_nl v1 = true ∧ ex_ X d 170 2 [v0, v1, .int x, v3] [] h Q) := mx_t1 (R_st (ok := mx_isI) (n := 2) (w := 1) (show mx_at 170 1 = some (.istore_n 2, 1) by decide +kernel) (fun _ _ => rfl) (Nat.le_of_ble_eq_true rfl)) rfl
set_option maxRecDepth 20000 in
theorem i170_2 : ex_ X d 170 2 [v0, v1, .int x, v3] [] h Q = ex_ X d 170 3 [v0, v1, .int x, v3] [.int x] h Q := ex_nx (show mx_at 170 2 = some (.iload_n 2, 1) by decide +kernel) rfl
set_option maxRecDepth 20000 in
theorem i170_3 : ex_ X d 170 3 [v0, .ref a, v2, v3] [w0] h Q = ex_ X d 170 4 [v0, .ref a, v2, v3] [.ref a, w0] h Q := ex_nx (show mx_at 170 3 = some (.aload_n 1, 1) by decide +kernel) rfl
set_option maxRecDepth 20000 in
theorem i170_4 : ex_ X d 170 4 [v0, v1, v2, v3] [w0, w1] h Q = ex_ X d 170 5 [v0, v1, v2, v3] [.int 1, w0, w1] h Q := R_iconst (show mx_at 170 4 = some (.iconst 1, 1) by decide +kernel) (by decide)
set_option maxRecDepth 20000 in
theorem i170_5 : ex_ X d 170 5 [v0, v1, v2, v3] [.int i, .ref a, w0] h Q = (ik_ h a i = true ∧ ex_ X d 170 6 [v0, v1, v2, v3] [.int (ia_ h a i), w0] h Q) := R_iald (show mx_at 170 5 = some (.iaload, 1) by decide +kernel)
set_option maxRecDepth 20000 in
theorem i170_6 : ex_ X d 170 6 [v0, v1, v2, v3] [.int y, .int x] h Q = if y ≤ x then ex_ X d 170 74 [v0, v1, v2, v3] [] h Q else ex_ X d 170 9 [v0, v1, v2, v3] [] h Q := (R_br (show mx_at 170 6 = some (.if_icmp .ge 68, 3) by decide +kernel) rfl rfl).trans mx_ite
set_option maxRecDepth 20000 in
theorem i170_9 : ex_ X d 170 9 [v0, v1, v2, v3] [] h Q = ex_ X d 170 11 [v0, v1, v2, v3] [.int 20] h Q := R_bipush (show mx_at 170 9 = some (.bipush 20, 2) by decide +kernel) (by decide)
set_option maxRecDepth 20000 in
theorem i170_11 : ex_ X d 170 11 [v0, v1, v2, v3] [w0] h Q = ex_ X d 170 13 [v0, v1, v2, v3] [.int 8, w0] h Q := R_bipush (show mx_at 170 11 = some (.bipush 8, 2) by decide +kernel) (by decide)
set_option maxRecDepth 20000 in
theorem i170_13 : ex_ X d 170 13 [v0, v1, .int x, v3] [w0, w1] h Q = ex_ X d 170 14 [v0, v1, .int x, v3] [.int x, w0, w1] h Q := ex_nx (show mx_at 170 13 = some (.iload_n 2, 1) by decide +kernel) rfl
set_option maxRecDepth 20000 in
theorem i170_14 : ex_ X d 170 14 [v0, v1, v2, v3] [.int y, .int x, w0] h Q = ex_ X d 170 15 [v0, v1, v2, v3] [.int (x * y), w0] h Q := ex_nx (show mx_at 170 14 = some (.imul, 1) by decide +kernel) rfl
set_option maxRecDepth 20000 in
theorem i170_15 : ex_ X d 170 15 [v0, v1, v2, v3] [.int y, .int x] h Q = ex_ X d 170 16 [v0, v1, v2, v3] [.int (x + y)] h Q := ex_nx (show mx_at 170 15 = some (.iadd, 1) by decide +kernel) rfl
set_option maxRecDepth 20000 in
theorem i170_16 : ex_ X d 170 16 [v0, v1, v2, v3] [.int x] h Q = (mx_nl v2 = true ∧ ex_ X d 170 17 [v0, v1, v2, .int x] [] h Q) := mx_t1 (R_st (ok := mx_isI) (n := 3) (w := 1) (show mx_at 170 16 = some (.istore_n 3, 1) by decide +kernel) (fun _ _ => rfl) (Nat.le_of_ble_eq_true rfl)) rfl
set_option maxRecDepth 20000 in
theorem i170_17 : ex_ X d 170 17 [v0, .ref a, v2, v3] [] h Q = ex_ X d 170 18 [v0, .ref a, v2, v3] [.ref a] h Q := ex_nx (show mx_at 170 17 = some (.aload_n 1, 1) by decide +kernel) rfl
set_option maxRecDepth 20000 in
theorem i170_18 : ex_ X d 170 18 [v0, v1, v2, .int x] [w0] h Q = ex_ X d 170 19 [v0, v1, v2, .int x] [.int x, w0] h Q := ex_nx (show mx_at 170 18 = some (.iload_n 3, 1) by decide +kernel) rfl
set_option maxRecDepth 20000 in
theorem i170_19 : ex_ X d 170 19 [v0, v1, v2, v3] [w0, w1] h Q = ex_ X d 170 20 [v0, v1, v2, v3] [.int 4, w0, w1] h Q := R_iconst (show mx_at 170 19 = some (.iconst 4, 1) by decide +kernel) (by decide)
set_option maxRecDepth 20000 in
theorem i170_20 : ex_ X d 170 20 [v0, v1, v2, v3] [.int y, .int x, w0] h Q = ex_ X d 170 21 [v0, v1, v2, v3] [.int (x + y), w0] h Q := ex_nx (show mx_at 170 20 = some (.iadd, 1) by decide +kernel) rfl
set_option maxRecDepth 20000 in
theorem i170_21 : ex_ X d 170 21 [v0, .ref a, v2, v3] [w0, w1] h Q = ex_ X d 170 22 [v0, .ref a, v2, v3] [.ref a, w0, w1] h Q := ex_nx (show mx_at 170 21 = some (.aload_n 1, 1) by decide +kernel) rfl
set_option maxRecDepth 20000 in
theorem i170_22 : ex_ X d 170 22 [v0, v1, v2, .int x] [w0, w1, w2] h Q = ex_ X d 170 23 [v0, v1, v2, .int x] [.int x, w0, w1, w2] h Q := ex_nx (show mx_at 170 22 = some (.iload_n 3, 1) by decide +kernel) rfl
set_option maxRecDepth 20000 in
theorem i170_23 : ex_ X d 170 23 [v0, v1, v2, v3] [w0, w1, w2, w3] h Q = ex_ X d 170 24 [v0, v1, v2, v3] [.int 4, w0, w1, w2, w3] h Q := R_iconst (show mx_at 170 23 = some (.iconst 4, 1) by decide +kernel) (by decide)
set_option maxRecDepth 20000 in
theorem i170_24 : ex_ X d 170 24 [v0, v1, v2, v3] [.int y, .int x, w0, w1, w2] h Q = ex_ X d 170 25 [v0, v1, v2, v3] [.int (x + y), w0, w1, w2] h Q := ex_nx (show mx_at 170 24 = some (.iadd, 1) by decide +kernel) rfl
set_option maxRecDepth 20000 in
theorem i170_25 : ex_ X d 170 25 [v0, v1, v2, v3] [.int i, .ref a, w0, w1] h Q = (ik_ h a i = true ∧ ex_ X d 170 26 [v0, v1, v2, v3] [.int (ia_ h a i), w0, w1] h Q) := R_iald (show mx_at 170 25 = some (.iaload, 1) by decide +kernel)
set_option maxRecDepth 20000 in
theorem i170_26 : ex_ X d 170 26 [v0, .ref a, v2, v3] [w0, w1, w2] h Q = ex_ X d 170 27 [v0, .ref a, v2, v3] [.ref a, w0, w1, w2] h Q := ex_nx (show mx_at 170 26 = some (.aload_n 1, 1) by decide +kernel) rfl
set_option maxRecDepth 20000 in
theorem i170_27 : ex_ X d 170 27 [v0, v1, v2, .int x] [w0, w1, w2, w3] h Q = ex_ X d 170 28 [v0, v1, v2, .int x] [.int x, w0, w1, w2, w3] h Q := ex_nx (show mx_at 170 27 = some (.iload_n 3, 1) by decide +kernel) rfl
set_option maxRecDepth 20000 in
theorem i170_28 : ex_ X d 170 28 [v0, v1, v2, v3] [w0, w1, w2, w3, w4] h Q = ex_ X d 170 29 [v0, v1, v2, v3] [.int 3, w0, w1, w2, w3, w4] h Q := R_iconst (show mx_at 170 28 = some (.iconst 3, 1) by decide +kernel) (by decide)
set_option maxRecDepth 20000 in
theorem i170_29 : ex_ X d 170 29 [v0, v1, v2, v3] [.int y, .int x, w0, w1, w2, w3] h Q = ex_ X d 170 30 [v0, v1, v2, v3] [.int (x + y), w0, w1, w2, w3] h Q := ex_nx (show mx_at 170 29 = some (.iadd, 1) by decide +kernel) rfl
set_option maxRecDepth 20000 in
theorem i170_30 : ex_ X d 170 30 [v0, v1, v2, v3] [.int i, .ref a, w0, w1, w2] h Q = (ik_ h a i = true ∧ ex_ X d 170 31 [v0, v1, v2, v3] [.int (ia_ h a i), w0, w1, w2] h Q) := R_iald (show mx_at 170 30 = some (.iaload, 1) by decide +kernel)
set_option maxRecDepth 20000 in
theorem i170_31 : ex_ X d 170 31 [v0, v1, v2, v3] [.int y, .int x, w0, w1] h Q = ex_ X d 170 32 [v0, v1, v2, v3] [.int (x + y), w0, w1] h Q := ex_nx (show mx_at 170 31 = some (.iadd, 1) by decide +kernel) rfl
set_option maxRecDepth 20000 in
theorem i170_32 : ex_ X d 170 32 [v0, v1, v2, v3] [w0, w1, w2] h Q = ex_ X d 170 33 [v0, v1, v2, v3] [.int 0, w0, w1, w2] h Q := R_iconst (show mx_at 170 32 = some (.iconst 0, 1) by decide +kernel) (by decide)
set_option maxRecDepth 20000 in
theorem i170_33 : ex_ X d 170 33 [v0, v1, v2, v3] [w0, w1, w2, w3] h Q = ex_ X d 170 35 [v0, v1, v2, v3] [.int 99, w0, w1, w2, w3] h Q := R_bipush (show mx_at 170 33 = some (.bipush 99, 2) by decide +kernel) (by decide)
set_option maxRecDepth 20000 in
theorem i170_35 : ex_ X (d + 1) 170 35 [v0, v1, v2, v3] [.int x2, .int x1, .int x0, w0, w1] h Q = ev_ X d 125 [.int x0, .int x1, .int x2] h (fun r h' => ex_ X (d + 1) 170 38 [v0, v1, v2, v3] (r.toList ++ [w0, w1]) h' Q) := R_stat (show mx_at 170 35 = some (.invokestatic 162, 3) by decide +kernel) (mx_clk ow170 cc12_162) (Nat.le_of_ble_eq_true rfl) rfl rfl (Nat.le_of_ble_eq_true rfl) ml125 (Nat.le_of_ble_eq_true rfl)
set_option maxRecDepth 20000 in
theorem i170_38 : ex_ X d 170 38 [v0, v1, v2, v3] [.int x, .int i, .ref a] h Q = (ik_ h a i = true ∧ ex_ X d 170 39 [v0, v1, v2, v3] [] (is_ h a i x) Q) := R_iast (show mx_at 170 38 = some (.iastore, 1) by decide +kernel)
set_option maxRecDepth 20000 in
theorem i170_39 : ex_ X d 170 39 [v0, .ref a, v2, v3] [] h Q = ex_ X d 170 40 [v0, .ref a, v2, v3] [.ref a] h Q := ex_nx (show mx_at 170 39 = some (.aload_n 1, 1) by decide +kernel) rfl
set_option maxRecDepth 20000 in
theorem i170_40 : ex_ X d 170 40 [v0, v1, .int x, v3] [w0] h Q = ex_ X d 170 41 [v0, v1, .int x, v3] [.int x, w0] h Q := ex_nx (show mx_at 170 40 = some (.iload_n 2, 1) by decide +kernel) rfl
set_option maxRecDepth 20000 in
theorem i170_41 : ex_ X d 170 41 [v0, .ref a, v2, v3] [w0, w1] h Q = ex_ X d 170 42 [v0, .ref a, v2, v3] [.ref a, w0, w1] h Q := ex_nx (show mx_at 170 41 = some (.aload_n 1, 1) by decide +kernel) rfl
set_option maxRecDepth 20000 in
theorem i170_42 : ex_ X d 170 42 [v0, v1, v2, .int x] [w0, w1, w2] h Q = ex_ X d 170 43 [v0, v1, v2, .int x] [.int x, w0, w1, w2] h Q := ex_nx (show mx_at 170 42 = some (.iload_n 3, 1) by decide +kernel) rfl
set_option maxRecDepth 20000 in
theorem i170_43 : ex_ X d 170 43 [v0, v1, v2, v3] [w0, w1, w2, w3] h Q = ex_ X d 170 44 [v0, v1, v2, v3] [.int 2, w0, w1, w2, w3] h Q := R_iconst (show mx_at 170 43 = some (.iconst 2, 1) by decide +kernel) (by decide)
set_option maxRecDepth 20000 in
theorem i170_44 : ex_ X d 170 44 [v0, v1, v2, v3] [.int y, .int x, w0, w1, w2] h Q = ex_ X d 170 45 [v0, v1, v2, v3] [.int (x + y), w0, w1, w2] h Q := ex_nx (show mx_at 170 44 = some (.iadd, 1) by decide +kernel) rfl
set_option maxRecDepth 20000 in
theorem i170_45 : ex_ X d 170 45 [v0, v1, v2, v3] [.int i, .ref a, w0, w1] h Q = (ik_ h a i = true ∧ ex_ X d 170 46 [v0, v1, v2, v3] [.int (ia_ h a i), w0, w1] h Q) := R_iald (show mx_at 170 45 = some (.iaload, 1) by decide +kernel)
set_option maxRecDepth 20000 in
theorem i170_46 : ex_ X d 170 46 [v0, v1, v2, v3] [.int x, w0, w1] h Q = ex_ X d 170 47 [v0, v1, v2, v3] [.int (-x), w0, w1] h Q := ex_nx (show mx_at 170 46 = some (.ineg, 1) by decide +kernel) rfl
set_option maxRecDepth 20000 in
theorem i170_47 : ex_ X d 170 47 [v0, .ref a, v2, v3] [w0, w1, w2] h Q = ex_ X d 170 48 [v0, .ref a, v2, v3] [.ref a, w0, w1, w2] h Q := ex_nx (show mx_at 170 47 = some (.aload_n 1, 1) by decide +kernel) rfl
set_option maxRecDepth 20000 in
theorem i170_48 : ex_ X d 170 48 [v0, v1, v2, .int x] [w0, w1, w2, w3] h Q = ex_ X d 170 49 [v0, v1, v2, .int x] [.int x, w0, w1, w2, w3] h Q := ex_nx (show mx_at 170 48 = some (.iload_n 3, 1) by decide +kernel) rfl
set_option maxRecDepth 20000 in
theorem i170_49 : ex_ X d 170 49 [v0, v1, v2, v3] [w0, w1, w2, w3, w4] h Q = ex_ X d 170 50 [v0, v1, v2, v3] [.int 3, w0, w1, w2, w3, w4] h Q := R_iconst (show mx_at 170 49 = some (.iconst 3, 1) by decide +kernel) (by decide)
set_option maxRecDepth 20000 in
theorem i170_50 : ex_ X d 170 50 [v0, v1, v2, v3] [.int y, .int x, w0, w1, w2, w3] h Q = ex_ X d 170 51 [v0, v1, v2, v3] [.int (x + y), w0, w1, w2, w3] h Q := ex_nx (show mx_at 170 50 = some (.iadd, 1) by decide +kernel) rfl
set_option maxRecDepth 20000 in
theorem i170_51 : ex_ X d 170 51 [v0, v1, v2, v3] [.int i, .ref a, w0, w1, w2] h Q = (ik_ h a i = true ∧ ex_ X d 170 52 [v0, v1, v2, v3] [.int (ia_ h a i), w0, w1, w2] h Q) := R_iald (show mx_at 170 51 = some (.iaload, 1) by decide +kernel)
set_option maxRecDepth 20000 in
theorem i170_52 : ex_ X d 170 52 [v0, v1, v2, v3] [.int y, .int x, w0, w1] h Q = ex_ X d 170 53 [v0, v1, v2, v3] [.int (x * y), w0, w1] h Q := ex_nx (show mx_at 170 52 = some (.imul, 1) by decide +kernel) rfl
set_option maxRecDepth 20000 in
theorem i170_53 : ex_ X (d + 1) 170 53 [v0, v1, v2, v3] [.int x2, .int x1, .ref a0] h Q = ev_ X d 167 [.ref a0, .int x1, .int x2] h (fun r h' => ex_ X (d + 1) 170 56 [v0, v1, v2, v3] (r.toList ++ []) h' Q) := R_stat (show mx_at 170 53 = some (.invokestatic 224, 3) by decide +kernel) (mx_clk ow170 cc12_224) (Nat.le_of_ble_eq_true rfl) rfl rfl (Nat.le_of_ble_eq_true rfl) ml167 (Nat.le_of_ble_eq_true rfl)
set_option maxRecDepth 20000 in
theorem i170_56 : ex_ X d 170 56 [v0, .ref a, v2, v3] [] h Q = ex_ X d 170 57 [v0, .ref a, v2, v3] [.ref a] h Q := ex_nx (show mx_at 170 56 = some (.aload_n 1, 1) by decide +kernel) rfl
set_option maxRecDepth 20000 in
theorem i170_57 : ex_ X d 170 57 [v0, v1, v2, .int x] [w0] h Q = ex_ X d 170 58 [v0, v1, v2, .int x] [.int x, w0] h Q := ex_nx (show mx_at 170 57 = some (.iload_n 3, 1) by decide +kernel) rfl
set_option maxRecDepth 20000 in
theorem i170_58 : ex_ X d 170 58 [v0, v1, v2, v3] [w0, w1] h Q = ex_ X d 170 60 [v0, v1, v2, v3] [.int 6, w0, w1] h Q := R_bipush (show mx_at 170 58 = some (.bipush 6, 2) by decide +kernel) (by decide)
set_option maxRecDepth 20000 in
theorem i170_60 : ex_ X d 170 60 [v0, v1, v2, v3] [.int y, .int x, w0] h Q = ex_ X d 170 61 [v0, v1, v2, v3] [.int (x + y), w0] h Q := ex_nx (show mx_at 170 60 = some (.iadd, 1) by decide +kernel) rfl
set_option maxRecDepth 20000 in
theorem i170_61 : ex_ X d 170 61 [.ref a, v1, v2, v3] [w0, w1] h Q = ex_ X d 170 62 [.ref a, v1, v2, v3] [.ref a, w0, w1] h Q := ex_nx (show mx_at 170 61 = some (.aload_n 0, 1) by decide +kernel) rfl
set_option maxRecDepth 20000 in
theorem i170_62 : ex_ X d 170 62 [v0, .ref a, v2, v3] [w0, w1, w2] h Q = ex_ X d 170 63 [v0, .ref a, v2, v3] [.ref a, w0, w1, w2] h Q := ex_nx (show mx_at 170 62 = some (.aload_n 1, 1) by decide +kernel) rfl
set_option maxRecDepth 20000 in
theorem i170_63 : ex_ X d 170 63 [v0, v1, .int x, v3] [w0, w1, w2, w3] h Q = ex_ X d 170 64 [v0, v1, .int x, v3] [.int x, w0, w1, w2, w3] h Q := ex_nx (show mx_at 170 63 = some (.iload_n 2, 1) by decide +kernel) rfl
set_option maxRecDepth 20000 in
theorem i170_64 (hc : co_ h a = some 12) : ex_ X (d + 1) 170 64 [v0, v1, v2, v3] [.int x1, .ref a0, .ref a, w0, w1] h Q = ev_ X d 154 [.ref a, .ref a0, .int x1] h (fun r h' => ex_ X (d + 1) 170 67 [v0, v1, v2, v3] (r.toList ++ [w0, w1]) h' Q) := R_vir (show mx_at 170 64 = some (.invokevirtual 176, 3) by decide +kernel) (mx_clk ow170 cc12_176) (Nat.le_of_ble_eq_true rfl) rfl rfl hc rfl (Nat.le_of_ble_eq_true rfl) (Nat.le_of_ble_eq_true rfl) (by rw [ml154]; exact Nat.le_of_ble_eq_true rfl)
set_option maxRecDepth 20000 in
theorem i170_67 : ex_ X d 170 67 [v0, v1, v2, v3] [.int x, .int i, .ref a] h Q = (ik_ h a i = true ∧ ex_ X d 170 68 [v0, v1, v2, v3] [] (is_ h a i x) Q) := R_iast (show mx_at 170 67 = some (.iastore, 1) by decide +kernel)
set_option maxRecDepth 20000 in
theorem i170_68 : ex_ X d 170 68 [v0, v1, .int x, v3] [] h Q = (mx_nl v1 = true ∧ ex_ X d 170 71 [v0, v1, .int (x + 1), v3] [] h Q) := R_iinc (n := 2) (c := 1) (show mx_at 170 68 = some (.iinc 2 1, 3) by decide +kernel) rfl
set_option maxRecDepth 20000 in
theorem i170_71 : ex_ X d 170 71 [v0, v1, v2, v3] [] h Q = ex_ X d 170 2 [v0, v1, v2, v3] [] h Q := R_to (show mx_at 170 71 = some (.goto (-69), 3) by decide +kernel) rfl rfl
set_option maxRecDepth 20000 in
theorem i170_74 : ex_ X d 170 74 [v0, v1, v2, v3] [] h Q = ex_ X d 170 75 [v0, v1, v2, v3] [.int 0] h Q := R_iconst (show mx_at 170 74 = some (.iconst 0, 1) by decide +kernel) (by decide)
set_option maxRecDepth 20000 in
theorem i170_75 : ex_ X d 170 75 [v0, v1, v2, v3] [.int x] h Q = (mx_nl v1 = true ∧ ex_ X d 170 76 [v0, v1, .int x, v3] [] h Q) := mx_t1 (R_st (ok := mx_isI) (n := 2) (w := 1) (show mx_at 170 75 = some (.istore_n 2, 1) by decide +kernel) (fun _ _ => rfl) (Nat.le_of_ble_eq_true rfl)) rfl
set_option maxRecDepth 20000 in
theorem i170_76 : ex_ X d 170 76 [v0, v1, .int x, v3] [] h Q = ex_ X d 170 77 [v0, v1, .int x, v3] [.int x] h Q := ex_nx (show mx_at 170 76 = some (.iload_n 2, 1) by decide +kernel) rfl
set_option maxRecDepth 20000 in
theorem i170_77 : ex_ X d 170 77 [v0, .ref a, v2, v3] [w0] h Q = ex_ X d 170 78 [v0, .ref a, v2, v3] [.ref a, w0] h Q := ex_nx (show mx_at 170 77 = some (.aload_n 1, 1) by decide +kernel) rfl
set_option maxRecDepth 20000 in
theorem i170_78 : ex_ X d 170 78 [v0, v1, v2, v3] [w0, w1] h Q = ex_ X d 170 79 [v0, v1, v2, v3] [.int 2, w0, w1] h Q := R_iconst (show mx_at 170 78 = some (.iconst 2, 1) by decide +kernel) (by decide)
set_option maxRecDepth 20000 in
theorem i170_79 : ex_ X d 170 79 [v0, v1, v2, v3] [.int i, .ref a, w0] h Q = (ik_ h a i = true ∧ ex_ X d 170 80 [v0, v1, v2, v3] [.int (ia_ h a i), w0] h Q) := R_iald (show mx_at 170 79 = some (.iaload, 1) by decide +kernel)
set_option maxRecDepth 20000 in
theorem i170_80 : ex_ X d 170 80 [v0, v1, v2, v3] [.int y, .int x] h Q = if y ≤ x then ex_ X d 170 95 [v0, v1, v2, v3] [] h Q else ex_ X d 170 83 [v0, v1, v2, v3] [] h Q := (R_br (show mx_at 170 80 = some (.if_icmp .ge 15, 3) by decide +kernel) rfl rfl).trans mx_ite
set_option maxRecDepth 20000 in
theorem i170_83 : ex_ X d 170 83 [.ref a, v1, v2, v3] [] h Q = ex_ X d 170 84 [.ref a, v1, v2, v3] [.ref a] h Q := ex_nx (show mx_at 170 83 = some (.aload_n 0, 1) by decide +kernel) rfl
set_option maxRecDepth 20000 in
theorem i170_84 : ex_ X d 170 84 [v0, .ref a, v2, v3] [w0] h Q = ex_ X d 170 85 [v0, .ref a, v2, v3] [.ref a, w0] h Q := ex_nx (show mx_at 170 84 = some (.aload_n 1, 1) by decide +kernel) rfl
set_option maxRecDepth 20000 in
theorem i170_85 : ex_ X d 170 85 [v0, v1, .int x, v3] [w0, w1] h Q = ex_ X d 170 86 [v0, v1, .int x, v3] [.int x, w0, w1] h Q := ex_nx (show mx_at 170 85 = some (.iload_n 2, 1) by decide +kernel) rfl
set_option maxRecDepth 20000 in
theorem i170_86 (hc : co_ h a = some 12) : ex_ X (d + 1) 170 86 [v0, v1, v2, v3] [.int x1, .ref a0, .ref a] h Q = ev_ X d 169 [.ref a, .ref a0, .int x1] h (fun r h' => ex_ X (d + 1) 170 89 [v0, v1, v2, v3] (r.toList ++ []) h' Q) := R_vir (show mx_at 170 86 = some (.invokevirtual 228, 3) by decide +kernel) (mx_clk ow170 cc12_228) (Nat.le_of_ble_eq_true rfl) rfl rfl hc rfl (Nat.le_of_ble_eq_true rfl) (Nat.le_of_ble_eq_true rfl) (by rw [ml169]; exact Nat.le_of_ble_eq_true rfl)
set_option maxRecDepth 20000 in
theorem i170_89 : ex_ X d 170 89 [v0, v1, .int x, v3] [] h Q = (mx_nl v1 = true ∧ ex_ X d 170 92 [v0, v1, .int (x + 1), v3] [] h Q) := R_iinc (n := 2) (c := 1) (show mx_at 170 89 = some (.iinc 2 1, 3) by decide +kernel) rfl
set_option maxRecDepth 20000 in
theorem i170_92 : ex_ X d 170 92 [v0, v1, v2, v3] [] h Q = ex_ X d 170 76 [v0, v1, v2, v3] [] h Q := R_to (show mx_at 170 92 = some (.goto (-16), 3) by decide +kernel) rfl rfl
set_option maxRecDepth 20000 in
theorem i170_95 : ex_ X d 170 95 [v0, .ref a, v2, v3] [] h Q = ex_ X d 170 96 [v0, .ref a, v2, v3] [.ref a] h Q := ex_nx (show mx_at 170 95 = some (.aload_n 1, 1) by decide +kernel) rfl
set_option maxRecDepth 20000 in
theorem i170_96 : ex_ X d 170 96 [v0, v1, v2, v3] [w0] h Q = ex_ X d 170 97 [v0, v1, v2, v3] [.int 0, w0] h Q := R_iconst (show mx_at 170 96 = some (.iconst 0, 1) by decide +kernel) (by decide)
set_option maxRecDepth 20000 in
theorem i170_97 : ex_ X d 170 97 [v0, v1, v2, v3] [.int x, .ref a] h Q = ex_ X d 170 98 [v0, v1, v2, v3] [.int x, .ref a, .int x, .ref a] h Q := ex_nx (show mx_at 170 97 = some (.dup2, 1) by decide +kernel) rfl
set_option maxRecDepth 20000 in
theorem i170_98 : ex_ X d 170 98 [v0, v1, v2, v3] [.int i, .ref a, w0, w1] h Q = (ik_ h a i = true ∧ ex_ X d 170 99 [v0, v1, v2, v3] [.int (ia_ h a i), w0, w1] h Q) := R_iald (show mx_at 170 98 = some (.iaload, 1) by decide +kernel)
set_option maxRecDepth 20000 in
theorem i170_99 : ex_ X d 170 99 [v0, v1, v2, v3] [w0, w1, w2] h Q = ex_ X d 170 100 [v0, v1, v2, v3] [.int 1, w0, w1, w2] h Q := R_iconst (show mx_at 170 99 = some (.iconst 1, 1) by decide +kernel) (by decide)
set_option maxRecDepth 20000 in
theorem i170_100 : ex_ X d 170 100 [v0, v1, v2, v3] [.int y, .int x, w0, w1] h Q = ex_ X d 170 101 [v0, v1, v2, v3] [.int (x + y), w0, w1] h Q := ex_nx (show mx_at 170 100 = some (.iadd, 1) by decide +kernel) rfl
set_option maxRecDepth 20000 in
theorem i170_101 : ex_ X d 170 101 [v0, v1, v2, v3] [.int x, .int i, .ref a] h Q = (ik_ h a i = true ∧ ex_ X d 170 102 [v0, v1, v2, v3] [] (is_ h a i x) Q) := R_iast (show mx_at 170 101 = some (.iastore, 1) by decide +kernel)
set_option maxRecDepth 20000 in
theorem i170_102 : ex_ X d 170 102 [v0, v1, v2, v3] [] h Q = Q none h := ex_ret (show mx_at 170 102 = some (.return_, 1) by decide +kernel) (mx_retV rt170)
theorem i170_e : ev_ X d 170 [.ref a, .ref a0] h Q = ex_ X d 170 0 [.ref a, .ref a0, .double 0, .double 0] [] h Q := by rw [ev_, ml170]; rfl
-- 171 X12_goesOn
set_option maxRecDepth 20000 in
theorem i171_0 : ex_ X d 171 0 [v0, v1, v2, v3] [] h Q = ex_ X d 171 1 [v0, v1, v2, v3] [.int 0] h Q := R_iconst (show mx_at 171 0 = some (.iconst 0, 1) by decide +kernel) (by decide)
set_option maxRecDepth 20000 in
theorem i171_1 : ex_ X d 171 1 [v0, v1, v2, v3] [.int x] h Q = (mx_nl v2 = true ∧ ex_ X d 171 2 [v0, v1, v2, .int x] [] h Q) := mx_t1 (R_st (ok := mx_isI) (n := 3) (w := 1) (show mx_at 171 1 = some (.istore_n 3, 1) by decide +kernel) (fun _ _ => rfl) (Nat.le_of_ble_eq_true rfl)) rfl
set_option maxRecDepth 20000 in
theorem i171_2 : ex_ X d 171 2 [v0, v1, v2, .int x] [] h Q = ex_ X d 171 3 [v0, v1, v2, .int x] [.int x] h Q := ex_nx (show mx_at 171 2 = some (.iload_n 3, 1) by decide +kernel) rfl
set_option maxRecDepth 20000 in
theorem i171_3 : ex_ X d 171 3 [v0, v1, .int x, v3] [w0] h Q = ex_ X d 171 4 [v0, v1, .int x, v3] [.int x, w0] h Q := ex_nx (show mx_at 171 3 = some (.iload_n 2, 1) by decide +kernel) rfl
set_option maxRecDepth 20000 in
theorem i171_4 : ex_ X d 171 4 [v0, v1, v2, v3] [.int y, .int x] h Q = if y ≤ x then ex_ X d 171 18 [v0, v1, v2, v3] [] h Q else ex_ X d 171 7 [v0, v1, v2, v3] [] h Q := (R_br (show mx_at 171 4 = some (.if_icmp .ge 14, 3) by decide +kernel) rfl rfl).trans mx_ite
set_option maxRecDepth 20000 in
theorem i171_7 : ex_ X d 171 7 [.ref a, v1, v2, v3] [] h Q = ex_ X d 171 8 [.ref a, v1, v2, v3] [.ref a] h Q := ex_nx (show mx_at 171 7 = some (.aload_n 0, 1) by decide +kernel) rfl
set_option maxRecDepth 20000 in
theorem i171_8 : ex_ X d 171 8 [v0, .ref a, v2, v3] [w0] h Q = ex_ X d 171 9 [v0, .ref a, v2, v3] [.ref a, w0] h Q := ex_nx (show mx_at 171 8 = some (.aload_n 1, 1) by decide +kernel) rfl
set_option maxRecDepth 20000 in
theorem i171_9 (hc : co_ h a = some 12) : ex_ X (d + 1) 171 9 [v0, v1, v2, v3] [.ref a0, .ref a] h Q = ev_ X d 170 [.ref a, .ref a0] h (fun r h' => ex_ X (d + 1) 171 12 [v0, v1, v2, v3] (r.toList ++ []) h' Q) := R_vir (show mx_at 171 9 = some (.invokevirtual 232, 3) by decide +kernel) (mx_clk ow171 cc12_232) (Nat.le_of_ble_eq_true rfl) rfl rfl hc rfl (Nat.le_of_ble_eq_true rfl) (Nat.le_of_ble_eq_true rfl) (by rw [ml170]; exact Nat.le_of_ble_eq_true rfl)
set_option maxRecDepth 20000 in
theorem i171_12 : ex_ X d 171 12 [v0, v1, v2, .int x] [] h Q = (mx_nl v2 = true ∧ ex_ X d 171 15 [v0, v1, v2, .int (x + 1)] [] h Q) := R_iinc (n := 3) (c := 1) (show mx_at 171 12 = some (.iinc 3 1, 3) by decide +kernel) rfl
set_option maxRecDepth 20000 in
theorem i171_15 : ex_ X d 171 15 [v0, v1, v2, v3] [] h Q = ex_ X d 171 2 [v0, v1, v2, v3] [] h Q := R_to (show mx_at 171 15 = some (.goto (-13), 3) by decide +kernel) rfl rfl
set_option maxRecDepth 20000 in
theorem i171_18 : ex_ X d 171 18 [v0, v1, v2, v3] [] h Q = Q none h := ex_ret (show mx_at 171 18 = some (.return_, 1) by decide +kernel) (mx_retV rt171)
theorem i171_e : ev_ X d 171 [.ref a, .ref a0, .int x1] h Q = ex_ X d 171 0 [.ref a, .ref a0, .int x1, .double 0] [] h Q := by rw [ev_, ml171]; rfl
-- 172 X12_days
set_option maxRecDepth 20000 in
theorem i172_0 : ex_ X d 172 0 [v0, .int x] [] h Q = ex_ X d 172 1 [v0, .int x] [.int x] h Q := ex_nx (show mx_at 172 0 = some (.iload_n 1, 1) by decide +kernel) rfl
set_option maxRecDepth 20000 in
theorem i172_1 : ex_ X d 172 1 [v0, v1] [.int x] h Q = ex_ X d 172 2 [v0, v1] [.long x.toInt64] h Q := ex_nx (show mx_at 172 1 = some (.i2l, 1) by decide +kernel) rfl
set_option maxRecDepth 20000 in
theorem i172_2 : ex_ X d 172 2 [v0, v1] [w0] h Q = ex_ X d 172 3 [v0, v1] [.long 1, w0] h Q := ex_nx (show mx_at 172 2 = some (.lconst 1, 1) by decide +kernel) rfl
set_option maxRecDepth 20000 in
theorem i172_3 : ex_ X d 172 3 [v0, v1] [w0, w1] h Q = ex_ X d 172 6 [v0, v1] [.long 60, w0, w1] h Q := R_ldc2 (show mx_at 172 3 = some (.ldc2_w 236, 3) by decide +kernel) ow172 kl120236
set_option maxRecDepth 20000 in
theorem i172_6 : ex_ X (d + 1) 172 6 [v0, v1] [.long j2, .long j1, .long j0] h Q = ev_ X d 124 [.long j0, .long j1, .long j2] h (fun r h' => ex_ X (d + 1) 172 9 [v0, v1] (r.toList ++ []) h' Q) := R_stat (show mx_at 172 6 = some (.invokestatic 54, 3) by decide +kernel) (mx_clk ow172 cc12_54) (Nat.le_of_ble_eq_true rfl) rfl rfl (Nat.le_of_ble_eq_true rfl) ml124 (Nat.le_of_ble_eq_true rfl)
set_option maxRecDepth 20000 in
theorem i172_9 : ex_ X d 172 9 [v0, v1] [.int x] h Q = if ¬ x = 0 then ex_ X d 172 18 [v0, v1] [] h Q else ex_ X d 172 12 [v0, v1] [] h Q := (R_br (show mx_at 172 9 = some (.ifCond .ne 9, 3) by decide +kernel) rfl rfl).trans mx_ite
set_option maxRecDepth 20000 in
theorem i172_12 : ex_ X d 172 12 [.ref a, v1] [] h Q = ex_ X d 172 13 [.ref a, v1] [.ref a] h Q := ex_nx (show mx_at 172 12 = some (.aload_n 0, 1) by decide +kernel) rfl
set_option maxRecDepth 20000 in
theorem i172_13 : ex_ X d 172 13 [v0, v1] [w0] h Q = ex_ X d 172 14 [v0, v1] [.int 1, w0] h Q := R_iconst (show mx_at 172 13 = some (.iconst 1, 1) by decide +kernel) (by decide)
set_option maxRecDepth 20000 in
theorem i172_14 (hc : co_ h a = some 12) : ex_ X (d + 1) 172 14 [v0, v1] [.int x0, .ref a] h Q = ev_ X d 123 [.ref a, .int x0] h (fun r h' => ex_ X (d + 1) 172 17 [v0, v1] (r.toList ++ []) h' Q) := R_vir (show mx_at 172 14 = some (.invokevirtual 131, 3) by decide +kernel) (mx_clk ow172 cc12_131) (Nat.le_of_ble_eq_true rfl) rfl rfl hc rfl (Nat.le_of_ble_eq_true rfl) (Nat.le_of_ble_eq_true rfl) (by rw [ml123]; exact Nat.le_of_ble_eq_true rfl)
set_option maxRecDepth 20000 in
theorem i172_17 : ex_ X d 172 17 [v0, v1] [.int x] h Q = Q (some (.int x)) h := ex_ret (show mx_at 172 17 = some (.ireturn, 1) by decide +kernel) (mx_retI rt172)
set_option maxRecDepth 20000 in
theorem i172_18 : ex_ X d 172 18 [.ref a, v1] [] h Q = ex_ X d 172 19 [.ref a, v1] [.ref a] h Q := ex_nx (show mx_at 172 18 = some (.aload_n 0, 1) by decide +kernel) rfl
set_option maxRecDepth 20000 in
theorem i172_19 : ex_ X d 172 19 [v0, v1] [.ref a] h Q = (gk_ h a 0 [(12, 0)] = true ∧ ex_ X d 172 22 [v0, v1] [gv_ h a 0] h Q) := R_getf (show mx_at 172 19 = some (.getfield 7, 3) by decide +kernel) (mx_fdo ow172 fd120007)
set_option maxRecDepth 20000 in
theorem i172_22 : ex_ X d 172 22 [v0, v1] [w0] h Q = ex_ X d 172 23 [v0, v1] [.int 0, w0] h Q := R_iconst (show mx_at 172 22 = some (.iconst 0, 1) by decide +kernel) (by decide)
set_option maxRecDepth 20000 in
theorem i172_23 : ex_ X d 172 23 [v0, v1] [.int i, .ref a] h Q = (ik_ h a i = true ∧ ex_ X d 172 24 [v0, v1] [.int (ia_ h a i)] h Q) := R_iald (show mx_at 172 23 = some (.iaload, 1) by decide +kernel)
set_option maxRecDepth 20000 in
theorem i172_24 : ex_ X d 172 24 [v0, .int x] [w0] h Q = ex_ X d 172 25 [v0, .int x] [.int x, w0] h Q := ex_nx (show mx_at 172 24 = some (.iload_n 1, 1) by decide +kernel) rfl
set_option maxRecDepth 20000 in
theorem i172_25 : ex_ X d 172 25 [v0, v1] [.int y, .int x] h Q = ex_ X d 172 26 [v0, v1] [.int (x + y)] h Q := ex_nx (show mx_at 172 25 = some (.iadd, 1) by decide +kernel) rfl
set_option maxRecDepth 20000 in
theorem i172_26 : ex_ X d 172 26 [v0, v1] [w0] h Q = ex_ X d 172 29 [v0, v1] [.int 399, w0] h Q := R_sipush (show mx_at 172 26 = some (.sipush 399, 3) by decide +kernel) (by decide)
set_option maxRecDepth 20000 in
theorem i172_29 : ex_ X d 172 29 [v0, v1] [.int y, .int x] h Q = if x ≤ y then ex_ X d 172 38 [v0, v1] [] h Q else ex_ X d 172 32 [v0, v1] [] h Q := (R_br (show mx_at 172 29 = some (.if_icmp .le 9, 3) by decide +kernel) rfl rfl).trans mx_ite
set_option maxRecDepth 20000 in
theorem i172_32 : ex_ X d 172 32 [.ref a, v1] [] h Q = ex_ X d 172 33 [.ref a, v1] [.ref a] h Q := ex_nx (show mx_at 172 32 = some (.aload_n 0, 1) by decide +kernel) rfl
set_option maxRecDepth 20000 in
theorem i172_33 : ex_ X d 172 33 [v0, v1] [w0] h Q = ex_ X d 172 34 [v0, v1] [.int 3, w0] h Q := R_iconst (show mx_at 172 33 = some (.iconst 3, 1) by decide +kernel) (by decide)
set_option maxRecDepth 20000 in
theorem i172_34 (hc : co_ h a = some 12) : ex_ X (d + 1) 172 34 [v0, v1] [.int x0, .ref a] h Q = ev_ X d 123 [.ref a, .int x0] h (fun r h' => ex_ X (d + 1) 172 37 [v0, v1] (r.toList ++ []) h' Q) := R_vir (show mx_at 172 34 = some (.invokevirtual 131, 3) by decide +kernel) (mx_clk ow172 cc12_131) (Nat.le_of_ble_eq_true rfl) rfl rfl hc rfl (Nat.le_of_ble_eq_true rfl) (Nat.le_of_ble_eq_true rfl) (by rw [ml123]; exact Nat.le_of_ble_eq_true rfl)
set_option maxRecDepth 20000 in
theorem i172_37 : ex_ X d 172 37 [v0, v1] [.int x] h Q = Q (some (.int x)) h := ex_ret (show mx_at 172 37 = some (.ireturn, 1) by decide +kernel) (mx_retI rt172)
set_option maxRecDepth 20000 in
theorem i172_38 : ex_ X d 172 38 [.ref a, v1] [] h Q = ex_ X d 172 39 [.ref a, v1] [.ref a] h Q := ex_nx (show mx_at 172 38 = some (.aload_n 0, 1) by decide +kernel) rfl
set_option maxRecDepth 20000 in
theorem i172_39 : ex_ X d 172 39 [.ref a, v1] [w0] h Q = ex_ X d 172 40 [.ref a, v1] [.ref a, w0] h Q := ex_nx (show mx_at 172 39 = some (.aload_n 0, 1) by decide +kernel) rfl
set_option maxRecDepth 20000 in
theorem i172_40 : ex_ X d 172 40 [v0, v1] [.ref a, w0] h Q = (gk_ h a 0 [(12, 0)] = true ∧ ex_ X d 172 43 [v0, v1] [gv_ h a 0, w0] h Q) := R_getf (show mx_at 172 40 = some (.getfield 7, 3) by decide +kernel) (mx_fdo ow172 fd120007)
set_option maxRecDepth 20000 in
theorem i172_43 : ex_ X d 172 43 [v0, .int x] [w0, w1] h Q = ex_ X d 172 44 [v0, .int x] [.int x, w0, w1] h Q := ex_nx (show mx_at 172 43 = some (.iload_n 1, 1) by decide +kernel) rfl
set_option maxRecDepth 20000 in
theorem i172_44 (hc : co_ h a = some 12) : ex_ X (d + 1) 172 44 [v0, v1] [.int x1, .ref a0, .ref a] h Q = ev_ X d 171 [.ref a, .ref a0, .int x1] h (fun r h' => ex_ X (d + 1) 172 47 [v0, v1] (r.toList ++ []) h' Q) := R_vir (show mx_at 172 44 = some (.invokevirtual 238, 3) by decide +kernel) (mx_clk ow172 cc12_238) (Nat.le_of_ble_eq_true rfl) rfl rfl hc rfl (Nat.le_of_ble_eq_true rfl) (Nat.le_of_ble_eq_true rfl) (by rw [ml171]; exact Nat.le_of_ble_eq_true rfl)
set_option maxRecDepth 20000 in
theorem i172_47 : ex_ X d 172 47 [.ref a, v1] [] h Q = ex_ X d 172 48 [.ref a, v1] [.ref a] h Q := ex_nx (show mx_at 172 47 = some (.aload_n 0, 1) by decide +kernel) rfl
set_option maxRecDepth 20000 in
theorem i172_48 : ex_ X d 172 48 [v0, v1] [.ref a] h Q = (gk_ h a 0 [(12, 0)] = true ∧ ex_ X d 172 51 [v0, v1] [gv_ h a 0] h Q) := R_getf (show mx_at 172 48 = some (.getfield 7, 3) by decide +kernel) (mx_fdo ow172 fd120007)
set_option maxRecDepth 20000 in
theorem i172_51 : ex_ X d 172 51 [v0, v1] [w0] h Q = ex_ X d 172 52 [v0, v1] [.int 0, w0] h Q := R_iconst (show mx_at 172 51 = some (.iconst 0, 1) by decide +kernel) (by decide)
set_option maxRecDepth 20000 in
theorem i172_52 : ex_ X d 172 52 [v0, v1] [.int i, .ref a] h Q = (ik_ h a i = true ∧ ex_ X d 172 53 [v0, v1] [.int (ia_ h a i)] h Q) := R_iald (show mx_at 172 52 = some (.iaload, 1) by decide +kernel)
set_option maxRecDepth 20000 in
theorem i172_53 : ex_ X d 172 53 [v0, v1] [.int x] h Q = Q (some (.int x)) h := ex_ret (show mx_at 172 53 = some (.ireturn, 1) by decide +kernel) (mx_retI rt172)
theorem i172_e : ev_ X d 172 [.ref a, .int x0] h Q = ex_ X d 172 0 [.ref a, .int x0] [] h Q := by rw [ev_, ml172]; rfl
-- 173 X12_year
set_option maxRecDepth 20000 in
theorem i173_0 : ex_ X d 173 0 [v0, .int x, v2] [] h Q = ex_ X d 173 1 [v0, .int x, v2] [.int x] h Q := ex_nx (show mx_at 173 0 = some (.iload_n 1, 1) by decide +kernel) rfl
set_option maxRecDepth 20000 in
theorem i173_1 : ex_ X d 173 1 [v0, v1, v2] [.int x] h Q = ex_ X d 173 2 [v0, v1, v2] [.long x.toInt64] h Q := ex_nx (show mx_at 173 1 = some (.i2l, 1) by decide +kernel) rfl
set_option maxRecDepth 20000 in
theorem i173_2 : ex_ X d 173 2 [v0, v1, v2] [w0] h Q = ex_ X d 173 3 [v0, v1, v2] [.long 1, w0] h Q := ex_nx (show mx_at 173 2 = some (.lconst 1, 1) by decide +kernel) rfl
set_option maxRecDepth 20000 in
theorem i173_3 : ex_ X d 173 3 [v0, v1, v2] [w0, w1] h Q = ex_ X d 173 6 [v0, v1, v2] [.long 60, w0, w1] h Q := R_ldc2 (show mx_at 173 3 = some (.ldc2_w 236, 3) by decide +kernel) ow173 kl120236
set_option maxRecDepth 20000 in
theorem i173_6 : ex_ X (d + 1) 173 6 [v0, v1, v2] [.long j2, .long j1, .long j0] h Q = ev_ X d 124 [.long j0, .long j1, .long j2] h (fun r h' => ex_ X (d + 1) 173 9 [v0, v1, v2] (r.toList ++ []) h' Q) := R_stat (show mx_at 173 6 = some (.invokestatic 54, 3) by decide +kernel) (mx_clk ow173 cc12_54) (Nat.le_of_ble_eq_true rfl) rfl rfl (Nat.le_of_ble_eq_true rfl) ml124 (Nat.le_of_ble_eq_true rfl)
set_option maxRecDepth 20000 in
theorem i173_9 : ex_ X d 173 9 [v0, v1, v2] [.int x] h Q = if ¬ x = 0 then ex_ X d 173 18 [v0, v1, v2] [] h Q else ex_ X d 173 12 [v0, v1, v2] [] h Q := (R_br (show mx_at 173 9 = some (.ifCond .ne 9, 3) by decide +kernel) rfl rfl).trans mx_ite
set_option maxRecDepth 20000 in
theorem i173_12 : ex_ X d 173 12 [.ref a, v1, v2] [] h Q = ex_ X d 173 13 [.ref a, v1, v2] [.ref a] h Q := ex_nx (show mx_at 173 12 = some (.aload_n 0, 1) by decide +kernel) rfl
set_option maxRecDepth 20000 in
theorem i173_13 : ex_ X d 173 13 [v0, v1, v2] [w0] h Q = ex_ X d 173 14 [v0, v1, v2] [.int 1, w0] h Q := R_iconst (show mx_at 173 13 = some (.iconst 1, 1) by decide +kernel) (by decide)
set_option maxRecDepth 20000 in
theorem i173_14 (hc : co_ h a = some 12) : ex_ X (d + 1) 173 14 [v0, v1, v2] [.int x0, .ref a] h Q = ev_ X d 123 [.ref a, .int x0] h (fun r h' => ex_ X (d + 1) 173 17 [v0, v1, v2] (r.toList ++ []) h' Q) := R_vir (show mx_at 173 14 = some (.invokevirtual 131, 3) by decide +kernel) (mx_clk ow173 cc12_131) (Nat.le_of_ble_eq_true rfl) rfl rfl hc rfl (Nat.le_of_ble_eq_true rfl) (Nat.le_of_ble_eq_true rfl) (by rw [ml123]; exact Nat.le_of_ble_eq_true rfl)
set_option maxRecDepth 20000 in
theorem i173_17 : ex_ X d 173 17 [v0, v1, v2] [.int x] h Q = Q (some (.int x)) h := ex_ret (show mx_at 173 17 = some (.ireturn, 1) by decide +kernel) (mx_retI rt173)
set_option maxRecDepth 20000 in
theorem i173_18 : ex_ X d 173 18 [.ref a, v1, v2] [] h Q = ex_ X d 173 19 [.ref a, v1, v2] [.ref a] h Q := ex_nx (show mx_at 173 18 = some (.aload_n 0, 1) by decide +kernel) rfl
set_option maxRecDepth 20000 in
theorem i173_19 : ex_ X d 173 19 [v0, v1, v2] [.ref a] h Q = (gk_ h a 0 [(12, 0)] = true ∧ ex_ X d 173 22 [v0, v1, v2] [gv_ h a 0] h Q) := R_getf (show mx_at 173 19 = some (.getfield 7, 3) by decide +kernel) (mx_fdo ow173 fd120007)
set_option maxRecDepth 20000 in
theorem i173_22 : ex_ X d 173 22 [v0, v1, v2] [w0] h Q = ex_ X d 173 23 [v0, v1, v2] [.int 0, w0] h Q := R_iconst (show mx_at 173 22 = some (.iconst 0, 1) by decide +kernel) (by decide)
set_option maxRecDepth 20000 in
theorem i173_23 : ex_ X d 173 23 [v0, v1, v2] [.int i, .ref a] h Q = (ik_ h a i = true ∧ ex_ X d 173 24 [v0, v1, v2] [.int (ia_ h a i)] h Q) := R_iald (show mx_at 173 23 = some (.iaload, 1) by decide +kernel)
set_option maxRecDepth 20000 in
theorem i173_24 : ex_ X d 173 24 [v0, .int x, v2] [w0] h Q = ex_ X d 173 25 [v0, .int x, v2] [.int x, w0] h Q := ex_nx (show mx_at 173 24 = some (.iload_n 1, 1) by decide +kernel) rfl
set_option maxRecDepth 20000 in
theorem i173_25 : ex_ X d 173 25 [v0, v1, v2] [.int y, .int x] h Q = ex_ X d 173 26 [v0, v1, v2] [.int (x + y)] h Q := ex_nx (show mx_at 173 25 = some (.iadd, 1) by decide +kernel) rfl
set_option maxRecDepth 20000 in
theorem i173_26 : ex_ X d 173 26 [v0, v1, v2] [w0] h Q = ex_ X d 173 29 [v0, v1, v2] [.int 399, w0] h Q := R_sipush (show mx_at 173 26 = some (.sipush 399, 3) by decide +kernel) (by decide)
set_option maxRecDepth 20000 in
theorem i173_29 : ex_ X d 173 29 [v0, v1, v2] [.int y, .int x] h Q = if x ≤ y then ex_ X d 173 38 [v0, v1, v2] [] h Q else ex_ X d 173 32 [v0, v1, v2] [] h Q := (R_br (show mx_at 173 29 = some (.if_icmp .le 9, 3) by decide +kernel) rfl rfl).trans mx_ite
set_option maxRecDepth 20000 in
theorem i173_32 : ex_ X d 173 32 [.ref a, v1, v2] [] h Q = ex_ X d 173 33 [.ref a, v1, v2] [.ref a] h Q := ex_nx (show mx_at 173 32 = some (.aload_n 0, 1) by decide +kernel) rfl
set_option maxRecDepth 20000 in
theorem i173_33 : ex_ X d 173 33 [v0, v1, v2] [w0] h Q = ex_ X d 173 34 [v0, v1, v2] [.int 3, w0] h Q := R_iconst (show mx_at 173 33 = some (.iconst 3, 1) by decide +kernel) (by decide)
set_option maxRecDepth 20000 in
theorem i173_34 (hc : co_ h a = some 12) : ex_ X (d + 1) 173 34 [v0, v1, v2] [.int x0, .ref a] h Q = ev_ X d 123 [.ref a, .int x0] h (fun r h' => ex_ X (d + 1) 173 37 [v0, v1, v2] (r.toList ++ []) h' Q) := R_vir (show mx_at 173 34 = some (.invokevirtual 131, 3) by decide +kernel) (mx_clk ow173 cc12_131) (Nat.le_of_ble_eq_true rfl) rfl rfl hc rfl (Nat.le_of_ble_eq_true rfl) (Nat.le_of_ble_eq_true rfl) (by rw [ml123]; exact Nat.le_of_ble_eq_true rfl)
set_option maxRecDepth 20000 in
theorem i173_37 : ex_ X d 173 37 [v0, v1, v2] [.int x] h Q = Q (some (.int x)) h := ex_ret (show mx_at 173 37 = some (.ireturn, 1) by decide +kernel) (mx_retI rt173)
set_option maxRecDepth 20000 in
theorem i173_38 : ex_ X d 173 38 [v0, v1, v2] [] h Q = ex_ X d 173 39 [v0, v1, v2] [.int 0] h Q := R_iconst (show mx_at 173 38 = some (.iconst 0, 1) by decide +kernel) (by decide)
set_option maxRecDepth 20000 in
theorem i173_39 : ex_ X d 173 39 [v0, v1, v2] [.int x] h Q = (mx_nl v1 = true ∧ ex_ X d 173 40 [v0, v1, .int x] [] h Q) := mx_t1 (R_st (ok := mx_isI) (n := 2) (w := 1) (show mx_at 173 39 = some (.istore_n 2, 1) by decide +kernel) (fun _ _ => rfl) (Nat.le_of_ble_eq_true rfl)) rfl
set_option maxRecDepth 20000 in
theorem i173_40 : ex_ X d 173 40 [v0, v1, .int x] [] h Q = ex_ X d 173 41 [v0, v1, .int x] [.int x] h Q := ex_nx (show mx_at 173 40 = some (.iload_n 2, 1) by decide +kernel) rfl
set_option maxRecDepth 20000 in
theorem i173_41 : ex_ X d 173 41 [v0, .int x, v2] [w0] h Q = ex_ X d 173 42 [v0, .int x, v2] [.int x, w0] h Q := ex_nx (show mx_at 173 41 = some (.iload_n 1, 1) by decide +kernel) rfl
set_option maxRecDepth 20000 in
theorem i173_42 : ex_ X d 173 42 [v0, v1, v2] [.int y, .int x] h Q = if y ≤ x then ex_ X d 173 98 [v0, v1, v2] [] h Q else ex_ X d 173 45 [v0, v1, v2] [] h Q := (R_br (show mx_at 173 42 = some (.if_icmp .ge 56, 3) by decide +kernel) rfl rfl).trans mx_ite
set_option maxRecDepth 20000 in
theorem i173_45 : ex_ X d 173 45 [.ref a, v1, v2] [] h Q = ex_ X d 173 46 [.ref a, v1, v2] [.ref a] h Q := ex_nx (show mx_at 173 45 = some (.aload_n 0, 1) by decide +kernel) rfl
set_option maxRecDepth 20000 in
theorem i173_46 : ex_ X d 173 46 [v0, v1, v2] [.ref a] h Q = (gk_ h a 0 [(12, 0)] = true ∧ ex_ X d 173 49 [v0, v1, v2] [gv_ h a 0] h Q) := R_getf (show mx_at 173 46 = some (.getfield 7, 3) by decide +kernel) (mx_fdo ow173 fd120007)
set_option maxRecDepth 20000 in
theorem i173_49 : ex_ X d 173 49 [v0, v1, v2] [w0] h Q = ex_ X d 173 51 [v0, v1, v2] [.int 8, w0] h Q := R_bipush (show mx_at 173 49 = some (.bipush 8, 2) by decide +kernel) (by decide)
set_option maxRecDepth 20000 in
theorem i173_51 : ex_ X d 173 51 [.ref a, v1, v2] [w0, w1] h Q = ex_ X d 173 52 [.ref a, v1, v2] [.ref a, w0, w1] h Q := ex_nx (show mx_at 173 51 = some (.aload_n 0, 1) by decide +kernel) rfl
set_option maxRecDepth 20000 in
theorem i173_52 : ex_ X d 173 52 [v0, v1, v2] [.ref a, w0, w1] h Q = (gk_ h a 0 [(12, 0)] = true ∧ ex_ X d 173 55 [v0, v1, v2] [gv_ h a 0, w0, w1] h Q) := R_getf (show mx_at 173 52 = some (.getfield 7, 3) by decide +kernel) (mx_fdo ow173 fd120007)
set_option maxRecDepth 20000 in
theorem i173_55 : ex_ X d 173 55 [v0, v1, v2] [w0, w1, w2] h Q = ex_ X d 173 57 [v0, v1, v2] [.int 8, w0, w1, w2] h Q := R_bipush (show mx_at 173 55 = some (.bipush 8, 2) by decide +kernel) (by decide)
set_option maxRecDepth 20000 in
theorem i173_57 : ex_ X d 173 57 [v0, v1, v2] [.int i, .ref a, w0, w1] h Q = (ik_ h a i = true ∧ ex_ X d 173 58 [v0, v1, v2] [.int (ia_ h a i), w0, w1] h Q) := R_iald (show mx_at 173 57 = some (.iaload, 1) by decide +kernel)
set_option maxRecDepth 20000 in
theorem i173_58 : ex_ X d 173 58 [v0, v1, v2] [w0, w1, w2] h Q = ex_ X d 173 60 [v0, v1, v2] [.int 1103515245, w0, w1, w2] h Q := R_ldc (show mx_at 173 58 = some (.ldc 241, 2) by decide +kernel) (by decide) ow173 ki120241
set_option maxRecDepth 20000 in
theorem i173_60 : ex_ X d 173 60 [v0, v1, v2] [.int y, .int x, w0, w1] h Q = ex_ X d 173 61 [v0, v1, v2] [.int (x * y), w0, w1] h Q := ex_nx (show mx_at 173 60 = some (.imul, 1) by decide +kernel) rfl
set_option maxRecDepth 20000 in
theorem i173_61 : ex_ X d 173 61 [v0, v1, v2] [w0, w1, w2] h Q = ex_ X d 173 64 [v0, v1, v2] [.int 12345, w0, w1, w2] h Q := R_sipush (show mx_at 173 61 = some (.sipush 12345, 3) by decide +kernel) (by decide)
set_option maxRecDepth 20000 in
theorem i173_64 : ex_ X d 173 64 [v0, v1, v2] [.int y, .int x, w0, w1] h Q = ex_ X d 173 65 [v0, v1, v2] [.int (x + y), w0, w1] h Q := ex_nx (show mx_at 173 64 = some (.iadd, 1) by decide +kernel) rfl
set_option maxRecDepth 20000 in
theorem i173_65 : ex_ X d 173 65 [v0, v1, v2] [.int x, .int i, .ref a] h Q = (ik_ h a i = true ∧ ex_ X d 173 66 [v0, v1, v2] [] (is_ h a i x) Q) := R_iast (show mx_at 173 65 = some (.iastore, 1) by decide +kernel)
set_option maxRecDepth 20000 in
theorem i173_66 : ex_ X d 173 66 [.ref a, v1, v2] [] h Q = ex_ X d 173 67 [.ref a, v1, v2] [.ref a] h Q := ex_nx (show mx_at 173 66 = some (.aload_n 0, 1) by decide +kernel) rfl
set_option maxRecDepth 20000 in
theorem i173_67 : ex_ X d 173 67 [v0, v1, v2] [.ref a] h Q = (gk_ h a 0 [(12, 0)] = true ∧ ex_ X d 173 70 [v0, v1, v2] [gv_ h a 0] h Q) := R_getf (show mx_at 173 67 = some (.getfield 7, 3) by decide +kernel) (mx_fdo ow173 fd120007)
set_option maxRecDepth 20000 in
theorem i173_70 : ex_ X d 173 70 [v0, v1, v2] [w0] h Q = ex_ X d 173 71 [v0, v1, v2] [.int 3, w0] h Q := R_iconst (show mx_at 173 70 = some (.iconst 3, 1) by decide +kernel) (by decide)
set_option maxRecDepth 20000 in
theorem i173_71 : ex_ X d 173 71 [.ref a, v1, v2] [w0, w1] h Q = ex_ X d 173 72 [.ref a, v1, v2] [.ref a, w0, w1] h Q := ex_nx (show mx_at 173 71 = some (.aload_n 0, 1) by decide +kernel) rfl
set_option maxRecDepth 20000 in
theorem i173_72 : ex_ X d 173 72 [v0, v1, v2] [.ref a, w0, w1] h Q = (gk_ h a 0 [(12, 0)] = true ∧ ex_ X d 173 75 [v0, v1, v2] [gv_ h a 0, w0, w1] h Q) := R_getf (show mx_at 173 72 = some (.getfield 7, 3) by decide +kernel) (mx_fdo ow173 fd120007)
set_option maxRecDepth 20000 in
theorem i173_75 : ex_ X d 173 75 [v0, v1, v2] [w0, w1, w2] h Q = ex_ X d 173 77 [v0, v1, v2] [.int 8, w0, w1, w2] h Q := R_bipush (show mx_at 173 75 = some (.bipush 8, 2) by decide +kernel) (by decide)
set_option maxRecDepth 20000 in
theorem i173_77 : ex_ X d 173 77 [v0, v1, v2] [.int i, .ref a, w0, w1] h Q = (ik_ h a i = true ∧ ex_ X d 173 78 [v0, v1, v2] [.int (ia_ h a i), w0, w1] h Q) := R_iald (show mx_at 173 77 = some (.iaload, 1) by decide +kernel)
set_option maxRecDepth 20000 in
theorem i173_78 : ex_ X d 173 78 [v0, v1, v2] [w0, w1, w2] h Q = ex_ X d 173 80 [v0, v1, v2] [.int 8, w0, w1, w2] h Q := R_bipush (show mx_at 173 78 = some (.bipush 8, 2) by decide +kernel) (by decide)
set_option maxRecDepth 20000 in
theorem i173_80 : ex_ X d 173 80 [v0, v1, v2] [.int y, .int x, w0, w1] h Q = ex_ X d 173 81 [v0, v1, v2] [.int ((x.toUInt32 >>> (y.toUInt32 &&& Int32.toUInt32 31)).toInt32), w0, w1] h Q := ex_nx (show mx_at 173 80 = some (.iushr, 1) by decide +kernel) rfl
set_option maxRecDepth 20000 in
theorem i173_81 : ex_ X d 173 81 [v0, v1, v2] [w0, w1, w2] h Q = ex_ X d 173 82 [v0, v1, v2] [.int 3, w0, w1, w2] h Q := R_iconst (show mx_at 173 81 = some (.iconst 3, 1) by decide +kernel) (by decide)
set_option maxRecDepth 20000 in
theorem i173_82 : ex_ X d 173 82 [v0, v1, v2] [.int y, .int x, w0, w1] h Q = (y ≠ 0 ∧ ex_ X d 173 83 [v0, v1, v2] [.int (x - x / y * y), w0, w1] h Q) := R_rem (show mx_at 173 82 = some (.irem, 1) by decide +kernel)
set_option maxRecDepth 20000 in
theorem i173_83 : ex_ X d 173 83 [v0, v1, v2] [.int x, .int i, .ref a] h Q = (ik_ h a i = true ∧ ex_ X d 173 84 [v0, v1, v2] [] (is_ h a i x) Q) := R_iast (show mx_at 173 83 = some (.iastore, 1) by decide +kernel)
set_option maxRecDepth 20000 in
theorem i173_84 : ex_ X d 173 84 [.ref a, v1, v2] [] h Q = ex_ X d 173 85 [.ref a, v1, v2] [.ref a] h Q := ex_nx (show mx_at 173 84 = some (.aload_n 0, 1) by decide +kernel) rfl
set_option maxRecDepth 20000 in
theorem i173_85 : ex_ X d 173 85 [.ref a, v1, v2] [w0] h Q = ex_ X d 173 86 [.ref a, v1, v2] [.ref a, w0] h Q := ex_nx (show mx_at 173 85 = some (.aload_n 0, 1) by decide +kernel) rfl
set_option maxRecDepth 20000 in
theorem i173_86 : ex_ X d 173 86 [v0, v1, v2] [.ref a, w0] h Q = (gk_ h a 0 [(12, 0)] = true ∧ ex_ X d 173 89 [v0, v1, v2] [gv_ h a 0, w0] h Q) := R_getf (show mx_at 173 86 = some (.getfield 7, 3) by decide +kernel) (mx_fdo ow173 fd120007)
set_option maxRecDepth 20000 in
theorem i173_89 (hc : co_ h a = some 12) : ex_ X (d + 1) 173 89 [v0, v1, v2] [.ref a0, .ref a] h Q = ev_ X d 170 [.ref a, .ref a0] h (fun r h' => ex_ X (d + 1) 173 92 [v0, v1, v2] (r.toList ++ []) h' Q) := R_vir (show mx_at 173 89 = some (.invokevirtual 232, 3) by decide +kernel) (mx_clk ow173 cc12_232) (Nat.le_of_ble_eq_true rfl) rfl rfl hc rfl (Nat.le_of_ble_eq_true rfl) (Nat.le_of_ble_eq_true rfl) (by rw [ml170]; exact Nat.le_of_ble_eq_true rfl)
set_option maxRecDepth 20000 in
theorem i173_92 : ex_ X d 173 92 [v0, v1, .int x] [] h Q = (mx_nl v1 = true ∧ ex_ X d 173 95 [v0, v1, .int (x + 1)] [] h Q) := R_iinc (n := 2) (c := 1) (show mx_at 173 92 = some (.iinc 2 1, 3) by decide +kernel) rfl
set_option maxRecDepth 20000 in
theorem i173_95 : ex_ X d 173 95 [v0, v1, v2] [] h Q = ex_ X d 173 40 [v0, v1, v2] [] h Q := R_to (show mx_at 173 95 = some (.goto (-55), 3) by decide +kernel) rfl rfl
set_option maxRecDepth 20000 in
theorem i173_98 : ex_ X d 173 98 [.ref a, v1, v2] [] h Q = ex_ X d 173 99 [.ref a, v1, v2] [.ref a] h Q := ex_nx (show mx_at 173 98 = some (.aload_n 0, 1) by decide +kernel) rfl
set_option maxRecDepth 20000 in
theorem i173_99 : ex_ X d 173 99 [v0, v1, v2] [.ref a] h Q = (gk_ h a 0 [(12, 0)] = true ∧ ex_ X d 173 102 [v0, v1, v2] [gv_ h a 0] h Q) := R_getf (show mx_at 173 99 = some (.getfield 7, 3) by decide +kernel) (mx_fdo ow173 fd120007)
set_option maxRecDepth 20000 in
theorem i173_102 : ex_ X d 173 102 [v0, v1, v2] [w0] h Q = ex_ X d 173 103 [v0, v1, v2] [.int 3, w0] h Q := R_iconst (show mx_at 173 102 = some (.iconst 3, 1) by decide +kernel) (by decide)
set_option maxRecDepth 20000 in
theorem i173_103 : ex_ X d 173 103 [v0, v1, v2] [.int i, .ref a] h Q = (ik_ h a i = true ∧ ex_ X d 173 104 [v0, v1, v2] [.int (ia_ h a i)] h Q) := R_iald (show mx_at 173 103 = some (.iaload, 1) by decide +kernel)
set_option maxRecDepth 20000 in
theorem i173_104 : ex_ X d 173 104 [v0, v1, v2] [.int x] h Q = Q (some (.int x)) h := ex_ret (show mx_at 173 104 = some (.ireturn, 1) by decide +kernel) (mx_retI rt173)
theorem i173_e : ev_ X d 173 [.ref a, .int x0] h Q = ex_ X d 173 0 [.ref a, .int x0, .double 0] [] h Q := by rw [ev_, ml173]; rfl
-- 174 X12_isAhead
set_option maxRecDepth 20000 in
theorem i174_0 : ex_ X d 174 0 [.int x] [] h Q = ex_ X d 174 1 [.int x] [.int x] h Q := ex_nx (show mx_at 174 0 = some (.iload_n 0, 1) by decide +kernel) rfl
set_option maxRecDepth 20000 in
theorem i174_1 : ex_ X d 174 1 [v0] [.int x] h Q = ex_ X d 174 2 [v0] [.long x.toInt64] h Q := ex_nx (show mx_at 174 1 = some (.i2l, 1) by decide +kernel) rfl
set_option maxRecDepth 20000 in
theorem i174_2 : ex_ X d 174 2 [v0] [w0] h Q = ex_ X d 174 3 [v0] [.long 0, w0] h Q := ex_nx (show mx_at 174 2 = some (.lconst 0, 1) by decide +kernel) rfl
set_option maxRecDepth 20000 in
theorem i174_3 : ex_ X d 174 3 [v0] [w0, w1] h Q = ex_ X d 174 6 [v0] [.long 60, w0, w1] h Q := R_ldc2 (show mx_at 174 3 = some (.ldc2_w 236, 3) by decide +kernel) ow174 kl120236
set_option maxRecDepth 20000 in
theorem i174_6 : ex_ X (d + 1) 174 6 [v0] [.long j2, .long j1, .long j0] h Q = ev_ X d 124 [.long j0, .long j1, .long j2] h (fun r h' => ex_ X (d + 1) 174 9 [v0] (r.toList ++ []) h' Q) := R_stat (show mx_at 174 6 = some (.invokestatic 54, 3) by decide +kernel) (mx_clk ow174 cc12_54) (Nat.le_of_ble_eq_true rfl) rfl rfl (Nat.le_of_ble_eq_true rfl) ml124 (Nat.le_of_ble_eq_true rfl)
set_option maxRecDepth 20000 in
theorem i174_9 (hx : x = 0 ∨ x = 1) : ex_ X d 174 9 [v0] [.int x] h Q = Q (some (.int x)) h := ex_ret (show mx_at 174 9 = some (.ireturn, 1) by decide +kernel) (mx_retZ hx rt174)
theorem i174_e : ev_ X d 174 [.int x0] h Q = ex_ X d 174 0 [.int x0] [] h Q := by rw [ev_, ml174]; rfl
-- 175 X12_ahead
set_option maxRecDepth 20000 in
theorem i175_0 : ex_ X d 175 0 [.ref a, v1] [] h Q = ex_ X d 175 1 [.ref a, v1] [.ref a] h Q := ex_nx (show mx_at 175 0 = some (.aload_n 0, 1) by decide +kernel) rfl
set_option maxRecDepth 20000 in
theorem i175_1 : ex_ X d 175 1 [v0, v1] [.ref a] h Q = (gk_ h a 0 [(12, 0)] = true ∧ ex_ X d 175 4 [v0, v1] [gv_ h a 0] h Q) := R_getf (show mx_at 175 1 = some (.getfield 7, 3) by decide +kernel) (mx_fdo ow175 fd120007)
set_option maxRecDepth 20000 in
theorem i175_4 : ex_ X d 175 4 [.ref a, v1] [w0] h Q = ex_ X d 175 5 [.ref a, v1] [.ref a, w0] h Q := ex_nx (show mx_at 175 4 = some (.aload_n 0, 1) by decide +kernel) rfl
set_option maxRecDepth 20000 in
theorem i175_5 : ex_ X d 175 5 [v0, v1] [.ref a, w0] h Q = (gk_ h a 1 [(12, 0)] = true ∧ ex_ X d 175 8 [v0, v1] [gv_ h a 1, w0] h Q) := R_getf (show mx_at 175 5 = some (.getfield 13, 3) by decide +kernel) (mx_fdo ow175 fd120013)
set_option maxRecDepth 20000 in
theorem i175_8 : ex_ X (d + 1) 175 8 [v0, v1] [.ref a1, .ref a0] h Q = ev_ X d 126 [.ref a0, .ref a1] h (fun r h' => ex_ X (d + 1) 175 11 [v0, v1] (r.toList ++ []) h' Q) := R_stat (show mx_at 175 8 = some (.invokestatic 242, 3) by decide +kernel) (mx_clk ow175 cc12_242) (Nat.le_of_ble_eq_true rfl) rfl rfl (Nat.le_of_ble_eq_true rfl) ml126 (Nat.le_of_ble_eq_true rfl)
set_option maxRecDepth 20000 in
theorem i175_11 : ex_ X d 175 11 [.ref a, v1] [] h Q = ex_ X d 175 12 [.ref a, v1] [.ref a] h Q := ex_nx (show mx_at 175 11 = some (.aload_n 0, 1) by decide +kernel) rfl
set_option maxRecDepth 20000 in
theorem i175_12 : ex_ X d 175 12 [.ref a, v1] [w0] h Q = ex_ X d 175 13 [.ref a, v1] [.ref a, w0] h Q := ex_nx (show mx_at 175 12 = some (.aload_n 0, 1) by decide +kernel) rfl
set_option maxRecDepth 20000 in
theorem i175_13 : ex_ X d 175 13 [v0, v1] [.ref a, w0] h Q = (gk_ h a 1 [(12, 0)] = true ∧ ex_ X d 175 16 [v0, v1] [gv_ h a 1, w0] h Q) := R_getf (show mx_at 175 13 = some (.getfield 13, 3) by decide +kernel) (mx_fdo ow175 fd120013)
set_option maxRecDepth 20000 in
theorem i175_16 : ex_ X d 175 16 [v0, .int x] [w0, w1] h Q = ex_ X d 175 17 [v0, .int x] [.int x, w0, w1] h Q := ex_nx (show mx_at 175 16 = some (.iload_n 1, 1) by decide +kernel) rfl
set_option maxRecDepth 20000 in
theorem i175_17 (hc : co_ h a = some 12) : ex_ X (d + 1) 175 17 [v0, v1] [.int x1, .ref a0, .ref a] h Q = ev_ X d 171 [.ref a, .ref a0, .int x1] h (fun r h' => ex_ X (d + 1) 175 20 [v0, v1] (r.toList ++ []) h' Q) := R_vir (show mx_at 175 17 = some (.invokevirtual 238, 3) by decide +kernel) (mx_clk ow175 cc12_238) (Nat.le_of_ble_eq_true rfl) rfl rfl hc rfl (Nat.le_of_ble_eq_true rfl) (Nat.le_of_ble_eq_true rfl) (by rw [ml171]; exact Nat.le_of_ble_eq_true rfl)
set_option maxRecDepth 20000 in
theorem i175_20 : ex_ X d 175 20 [v0, v1] [] h Q = Q none h := ex_ret (show mx_at 175 20 = some (.return_, 1) by decide +kernel) (mx_retV rt175)
theorem i175_e : ev_ X d 175 [.ref a, .int x0] h Q = ex_ X d 175 0 [.ref a, .int x0] [] h Q := by rw [ev_, ml175]; rfl
-- 176 X12_then
set_option maxRecDepth 20000 in
theorem i176_0 : ex_ X d 176 0 [v0, .int x, v2, v3] [] h Q = ex_ X d 176 1 [v0, .int x, v2, v3] [.int x] h Q := ex_nx (show mx_at 176 0 = some (.iload_n 1, 1) by decide +kernel) rfl
set_option maxRecDepth 20000 in
theorem i176_1 : ex_ X (d + 1) 176 1 [v0, v1, v2, v3] [.int x0] h Q = ev_ X d 174 [.int x0] h (fun r h' => ex_ X (d + 1) 176 4 [v0, v1, v2, v3] (r.toList ++ []) h' Q) := R_stat (show mx_at 176 1 = some (.invokestatic 246, 3) by decide +kernel) (mx_clk ow176 cc12_246) (Nat.le_of_ble_eq_true rfl) rfl rfl (Nat.le_of_ble_eq_true rfl) ml174 (Nat.le_of_ble_eq_true rfl)
set_option maxRecDepth 20000 in
theorem i176_4 : ex_ X d 176 4 [v0, v1, v2, v3] [.int x] h Q = if x = 0 then ex_ X d 176 27 [v0, v1, v2, v3] [] h Q else ex_ X d 176 7 [v0, v1, v2, v3] [] h Q := (R_br (show mx_at 176 4 = some (.ifCond .eq 23, 3) by decide +kernel) rfl rfl).trans mx_ite
set_option maxRecDepth 20000 in
theorem i176_7 : ex_ X d 176 7 [.ref a, v1, v2, v3] [] h Q = ex_ X d 176 8 [.ref a, v1, v2, v3] [.ref a] h Q := ex_nx (show mx_at 176 7 = some (.aload_n 0, 1) by decide +kernel) rfl
set_option maxRecDepth 20000 in
theorem i176_8 : ex_ X d 176 8 [v0, v1, .int x, v3] [w0] h Q = ex_ X d 176 9 [v0, v1, .int x, v3] [.int x, w0] h Q := ex_nx (show mx_at 176 8 = some (.iload_n 2, 1) by decide +kernel) rfl
set_option maxRecDepth 20000 in
theorem i176_9 (hc : co_ h a = some 12) : ex_ X (d + 1) 176 9 [v0, v1, v2, v3] [.int x0, .ref a] h Q = ev_ X d 127 [.ref a, .int x0] h (fun r h' => ex_ X (d + 1) 176 12 [v0, v1, v2, v3] (r.toList ++ []) h' Q) := R_vir (show mx_at 176 9 = some (.invokevirtual 173, 3) by decide +kernel) (mx_clk ow176 cc12_173) (Nat.le_of_ble_eq_true rfl) rfl rfl hc rfl (Nat.le_of_ble_eq_true rfl) (Nat.le_of_ble_eq_true rfl) (by rw [ml127]; exact Nat.le_of_ble_eq_true rfl)
set_option maxRecDepth 20000 in
theorem i176_12 : ex_ X d 176 12 [v0, v1, v2, v3] [.int x] h Q = if x = 0 then ex_ X d 176 27 [v0, v1, v2, v3] [] h Q else ex_ X d 176 15 [v0, v1, v2, v3] [] h Q := (R_br (show mx_at 176 12 = some (.ifCond .eq 15, 3) by decide +kernel) rfl rfl).trans mx_ite
set_option maxRecDepth 20000 in
theorem i176_15 : ex_ X d 176 15 [v0, v1, v2, .int x] [] h Q = ex_ X d 176 16 [v0, v1, v2, .int x] [.int x] h Q := ex_nx (show mx_at 176 15 = some (.iload_n 3, 1) by decide +kernel) rfl
set_option maxRecDepth 20000 in
theorem i176_16 : ex_ X d 176 16 [v0, v1, v2, v3] [.int x] h Q = ex_ X d 176 17 [v0, v1, v2, v3] [.long x.toInt64] h Q := ex_nx (show mx_at 176 16 = some (.i2l, 1) by decide +kernel) rfl
set_option maxRecDepth 20000 in
theorem i176_17 : ex_ X d 176 17 [v0, v1, v2, v3] [w0] h Q = ex_ X d 176 18 [v0, v1, v2, v3] [.long 0, w0] h Q := ex_nx (show mx_at 176 17 = some (.lconst 0, 1) by decide +kernel) rfl
set_option maxRecDepth 20000 in
theorem i176_18 : ex_ X d 176 18 [v0, v1, v2, v3] [w0, w1] h Q = ex_ X d 176 21 [v0, v1, v2, v3] [.long 8, w0, w1] h Q := R_ldc2 (show mx_at 176 18 = some (.ldc2_w 129, 3) by decide +kernel) ow176 kl120129
set_option maxRecDepth 20000 in
theorem i176_21 : ex_ X (d + 1) 176 21 [v0, v1, v2, v3] [.long j2, .long j1, .long j0] h Q = ev_ X d 124 [.long j0, .long j1, .long j2] h (fun r h' => ex_ X (d + 1) 176 24 [v0, v1, v2, v3] (r.toList ++ []) h' Q) := R_stat (show mx_at 176 21 = some (.invokestatic 54, 3) by decide +kernel) (mx_clk ow176 cc12_54) (Nat.le_of_ble_eq_true rfl) rfl rfl (Nat.le_of_ble_eq_true rfl) ml124 (Nat.le_of_ble_eq_true rfl)
set_option maxRecDepth 20000 in
theorem i176_24 : ex_ X d 176 24 [v0, v1, v2, v3] [.int x] h Q = if ¬ x = 0 then ex_ X d 176 33 [v0, v1, v2, v3] [] h Q else ex_ X d 176 27 [v0, v1, v2, v3] [] h Q := (R_br (show mx_at 176 24 = some (.ifCond .ne 9, 3) by decide +kernel) rfl rfl).trans mx_ite
set_option maxRecDepth 20000 in
theorem i176_27 : ex_ X d 176 27 [.ref a, v1, v2, v3] [] h Q = ex_ X d 176 28 [.ref a, v1, v2, v3] [.ref a] h Q := ex_nx (show mx_at 176 27 = some (.aload_n 0, 1) by decide +kernel) rfl
set_option maxRecDepth 20000 in
theorem i176_28 : ex_ X d 176 28 [v0, v1, v2, v3] [w0] h Q = ex_ X d 176 29 [v0, v1, v2, v3] [.int 1, w0] h Q := R_iconst (show mx_at 176 28 = some (.iconst 1, 1) by decide +kernel) (by decide)
set_option maxRecDepth 20000 in
theorem i176_29 (hc : co_ h a = some 12) : ex_ X (d + 1) 176 29 [v0, v1, v2, v3] [.int x0, .ref a] h Q = ev_ X d 123 [.ref a, .int x0] h (fun r h' => ex_ X (d + 1) 176 32 [v0, v1, v2, v3] (r.toList ++ []) h' Q) := R_vir (show mx_at 176 29 = some (.invokevirtual 131, 3) by decide +kernel) (mx_clk ow176 cc12_131) (Nat.le_of_ble_eq_true rfl) rfl rfl hc rfl (Nat.le_of_ble_eq_true rfl) (Nat.le_of_ble_eq_true rfl) (by rw [ml123]; exact Nat.le_of_ble_eq_true rfl)
set_option maxRecDepth 20000 in
theorem i176_32 : ex_ X d 176 32 [v0, v1, v2, v3] [.int x] h Q = Q (some (.int x)) h := ex_ret (show mx_at 176 32 = some (.ireturn, 1) by decide +kernel) (mx_retI rt176)
set_option maxRecDepth 20000 in
theorem i176_33 : ex_ X d 176 33 [.ref a, v1, v2, v3] [] h Q = ex_ X d 176 34 [.ref a, v1, v2, v3] [.ref a] h Q := ex_nx (show mx_at 176 33 = some (.aload_n 0, 1) by decide +kernel) rfl
set_option maxRecDepth 20000 in
theorem i176_34 : ex_ X d 176 34 [v0, .int x, v2, v3] [w0] h Q = ex_ X d 176 35 [v0, .int x, v2, v3] [.int x, w0] h Q := ex_nx (show mx_at 176 34 = some (.iload_n 1, 1) by decide +kernel) rfl
set_option maxRecDepth 20000 in
theorem i176_35 (hc : co_ h a = some 12) : ex_ X (d + 1) 176 35 [v0, v1, v2, v3] [.int x0, .ref a] h Q = ev_ X d 175 [.ref a, .int x0] h (fun r h' => ex_ X (d + 1) 176 38 [v0, v1, v2, v3] (r.toList ++ []) h' Q) := R_vir (show mx_at 176 35 = some (.invokevirtual 249, 3) by decide +kernel) (mx_clk ow176 cc12_249) (Nat.le_of_ble_eq_true rfl) rfl rfl hc rfl (Nat.le_of_ble_eq_true rfl) (Nat.le_of_ble_eq_true rfl) (by rw [ml175]; exact Nat.le_of_ble_eq_true rfl)
set_option maxRecDepth 20000 in
theorem i176_38 : ex_ X d 176 38 [v0, v1, v2, .int x] [] h Q = ex_ X d 176 39 [v0, v1, v2, .int x] [.int x] h Q := ex_nx (show mx_at 176 38 = some (.iload_n 3, 1) by decide +kernel) rfl
set_option maxRecDepth 20000 in
theorem i176_39 : ex_ X d 176 39 [v0, v1, v2, v3] [w0] h Q = ex_ X d 176 41 [v0, v1, v2, v3] [.int 7, w0] h Q := R_bipush (show mx_at 176 39 = some (.bipush 7, 2) by decide +kernel) (by decide)
set_option maxRecDepth 20000 in
theorem i176_41 : ex_ X d 176 41 [v0, v1, v2, v3] [.int y, .int x] h Q = if ¬ x = y then ex_ X d 176 62 [v0, v1, v2, v3] [] h Q else ex_ X d 176 44 [v0, v1, v2, v3] [] h Q := (R_br (show mx_at 176 41 = some (.if_icmp .ne 21, 3) by decide +kernel) rfl rfl).trans mx_ite
set_option maxRecDepth 20000 in
theorem i176_44 : ex_ X d 176 44 [.ref a, v1, v2, v3] [] h Q = ex_ X d 176 45 [.ref a, v1, v2, v3] [.ref a] h Q := ex_nx (show mx_at 176 44 = some (.aload_n 0, 1) by decide +kernel) rfl
set_option maxRecDepth 20000 in
theorem i176_45 : ex_ X d 176 45 [v0, v1, v2, v3] [.ref a] h Q = (gk_ h a 1 [(12, 0)] = true ∧ ex_ X d 176 48 [v0, v1, v2, v3] [gv_ h a 1] h Q) := R_getf (show mx_at 176 45 = some (.getfield 13, 3) by decide +kernel) (mx_fdo ow176 fd120013)
set_option maxRecDepth 20000 in
theorem i176_48 : ex_ X d 176 48 [v0, v1, .int x, v3] [w0] h Q = ex_ X d 176 49 [v0, v1, .int x, v3] [.int x, w0] h Q := ex_nx (show mx_at 176 48 = some (.iload_n 2, 1) by decide +kernel) rfl
set_option maxRecDepth 20000 in
theorem i176_49 : ex_ X (d + 1) 176 49 [v0, v1, v2, v3] [.int x1, .ref a0] h Q = ev_ X d 151 [.ref a0, .int x1] h (fun r h' => ex_ X (d + 1) 176 52 [v0, v1, v2, v3] (r.toList ++ []) h' Q) := R_stat (show mx_at 176 49 = some (.invokestatic 158, 3) by decide +kernel) (mx_clk ow176 cc12_158) (Nat.le_of_ble_eq_true rfl) rfl rfl (Nat.le_of_ble_eq_true rfl) ml151 (Nat.le_of_ble_eq_true rfl)
set_option maxRecDepth 20000 in
theorem i176_52 : ex_ X d 176 52 [v0, v1, v2, v3] [w0] h Q = ex_ X d 176 53 [v0, v1, v2, v3] [.int 0, w0] h Q := R_iconst (show mx_at 176 52 = some (.iconst 0, 1) by decide +kernel) (by decide)
set_option maxRecDepth 20000 in
theorem i176_53 : ex_ X d 176 53 [v0, v1, v2, v3] [w0, w1] h Q = ex_ X d 176 56 [v0, v1, v2, v3] [.int 999, w0, w1] h Q := R_sipush (show mx_at 176 53 = some (.sipush 999, 3) by decide +kernel) (by decide)
set_option maxRecDepth 20000 in
theorem i176_56 : ex_ X (d + 1) 176 56 [v0, v1, v2, v3] [.int x2, .int x1, .int x0] h Q = ev_ X d 125 [.int x0, .int x1, .int x2] h (fun r h' => ex_ X (d + 1) 176 59 [v0, v1, v2, v3] (r.toList ++ []) h' Q) := R_stat (show mx_at 176 56 = some (.invokestatic 162, 3) by decide +kernel) (mx_clk ow176 cc12_162) (Nat.le_of_ble_eq_true rfl) rfl rfl (Nat.le_of_ble_eq_true rfl) ml125 (Nat.le_of_ble_eq_true rfl)
set_option maxRecDepth 20000 in
theorem i176_59 : ex_ X d 176 59 [v0, v1, v2, v3] [w0] h Q = ex_ X d 176 89 [v0, v1, v2, v3] [w0] h Q := R_to (show mx_at 176 59 = some (.goto 30, 3) by decide +kernel) rfl rfl
set_option maxRecDepth 20000 in
theorem i176_62 : ex_ X d 176 62 [v0, v1, v2, .int x] [] h Q = ex_ X d 176 63 [v0, v1, v2, .int x] [.int x] h Q := ex_nx (show mx_at 176 62 = some (.iload_n 3, 1) by decide +kernel) rfl
set_option maxRecDepth 20000 in
theorem i176_63 : ex_ X d 176 63 [v0, v1, v2, v3] [w0] h Q = ex_ X d 176 65 [v0, v1, v2, v3] [.int 8, w0] h Q := R_bipush (show mx_at 176 63 = some (.bipush 8, 2) by decide +kernel) (by decide)
set_option maxRecDepth 20000 in
theorem i176_65 : ex_ X d 176 65 [v0, v1, v2, v3] [.int y, .int x] h Q = if ¬ x = y then ex_ X d 176 80 [v0, v1, v2, v3] [] h Q else ex_ X d 176 68 [v0, v1, v2, v3] [] h Q := (R_br (show mx_at 176 65 = some (.if_icmp .ne 15, 3) by decide +kernel) rfl rfl).trans mx_ite
set_option maxRecDepth 20000 in
theorem i176_68 : ex_ X d 176 68 [.ref a, v1, v2, v3] [] h Q = ex_ X d 176 69 [.ref a, v1, v2, v3] [.ref a] h Q := ex_nx (show mx_at 176 68 = some (.aload_n 0, 1) by decide +kernel) rfl
set_option maxRecDepth 20000 in
theorem i176_69 : ex_ X d 176 69 [.ref a, v1, v2, v3] [w0] h Q = ex_ X d 176 70 [.ref a, v1, v2, v3] [.ref a, w0] h Q := ex_nx (show mx_at 176 69 = some (.aload_n 0, 1) by decide +kernel) rfl
set_option maxRecDepth 20000 in
theorem i176_70 : ex_ X d 176 70 [v0, v1, v2, v3] [.ref a, w0] h Q = (gk_ h a 1 [(12, 0)] = true ∧ ex_ X d 176 73 [v0, v1, v2, v3] [gv_ h a 1, w0] h Q) := R_getf (show mx_at 176 70 = some (.getfield 13, 3) by decide +kernel) (mx_fdo ow176 fd120013)
set_option maxRecDepth 20000 in
theorem i176_73 : ex_ X d 176 73 [v0, v1, .int x, v3] [w0, w1] h Q = ex_ X d 176 74 [v0, v1, .int x, v3] [.int x, w0, w1] h Q := ex_nx (show mx_at 176 73 = some (.iload_n 2, 1) by decide +kernel) rfl
set_option maxRecDepth 20000 in
theorem i176_74 (hc : co_ h a = some 12) : ex_ X (d + 1) 176 74 [v0, v1, v2, v3] [.int x1, .ref a0, .ref a] h Q = ev_ X d 154 [.ref a, .ref a0, .int x1] h (fun r h' => ex_ X (d + 1) 176 77 [v0, v1, v2, v3] (r.toList ++ []) h' Q) := R_vir (show mx_at 176 74 = some (.invokevirtual 176, 3) by decide +kernel) (mx_clk ow176 cc12_176) (Nat.le_of_ble_eq_true rfl) rfl rfl hc rfl (Nat.le_of_ble_eq_true rfl) (Nat.le_of_ble_eq_true rfl) (by rw [ml154]; exact Nat.le_of_ble_eq_true rfl)
set_option maxRecDepth 20000 in
theorem i176_77 : ex_ X d 176 77 [v0, v1, v2, v3] [w0] h Q = ex_ X d 176 89 [v0, v1, v2, v3] [w0] h Q := R_to (show mx_at 176 77 = some (.goto 12, 3) by decide +kernel) rfl rfl
set_option maxRecDepth 20000 in
theorem i176_80 : ex_ X d 176 80 [.ref a, v1, v2, v3] [] h Q = ex_ X d 176 81 [.ref a, v1, v2, v3] [.ref a] h Q := ex_nx (show mx_at 176 80 = some (.aload_n 0, 1) by decide +kernel) rfl
set_option maxRecDepth 20000 in
theorem i176_81 : ex_ X d 176 81 [v0, v1, v2, v3] [.ref a] h Q = (gk_ h a 1 [(12, 0)] = true ∧ ex_ X d 176 84 [v0, v1, v2, v3] [gv_ h a 1] h Q) := R_getf (show mx_at 176 81 = some (.getfield 13, 3) by decide +kernel) (mx_fdo ow176 fd120013)
set_option maxRecDepth 20000 in
theorem i176_84 : ex_ X d 176 84 [v0, v1, .int x, v3] [w0] h Q = ex_ X d 176 85 [v0, v1, .int x, v3] [.int x, w0] h Q := ex_nx (show mx_at 176 84 = some (.iload_n 2, 1) by decide +kernel) rfl
set_option maxRecDepth 20000 in
theorem i176_85 : ex_ X d 176 85 [v0, v1, v2, .int x] [w0, w1] h Q = ex_ X d 176 86 [v0, v1, v2, .int x] [.int x, w0, w1] h Q := ex_nx (show mx_at 176 85 = some (.iload_n 3, 1) by decide +kernel) rfl
set_option maxRecDepth 20000 in
theorem i176_86 : ex_ X (d + 1) 176 86 [v0, v1, v2, v3] [.int x2, .int x1, .ref a0] h Q = ev_ X d 129 [.ref a0, .int x1, .int x2] h (fun r h' => ex_ X (d + 1) 176 89 [v0, v1, v2, v3] (r.toList ++ []) h' Q) := R_stat (show mx_at 176 86 = some (.invokestatic 154, 3) by decide +kernel) (mx_clk ow176 cc12_154) (Nat.le_of_ble_eq_true rfl) rfl rfl (Nat.le_of_ble_eq_true rfl) ml129 (Nat.le_of_ble_eq_true rfl)
set_option maxRecDepth 20000 in
theorem i176_89 : ex_ X d 176 89 [v0, v1, v2, v3] [.int x] h Q = Q (some (.int x)) h := ex_ret (show mx_at 176 89 = some (.ireturn, 1) by decide +kernel) (mx_retI rt176)
theorem i176_e : ev_ X d 176 [.ref a, .int x0, .int x1, .int x2] h Q = ex_ X d 176 0 [.ref a, .int x0, .int x1, .int x2] [] h Q := by rw [ev_, ml176]; rfl
-- 177 X12_waits
set_option maxRecDepth 20000 in
theorem i177_0 : ex_ X d 177 0 [v0, .int x, v2] [] h Q = ex_ X d 177 1 [v0, .int x, v2] [.int x] h Q := ex_nx (show mx_at 177 0 = some (.iload_n 1, 1) by decide +kernel) rfl
set_option maxRecDepth 20000 in
theorem i177_1 : ex_ X (d + 1) 177 1 [v0, v1, v2] [.int x0] h Q = ev_ X d 174 [.int x0] h (fun r h' => ex_ X (d + 1) 177 4 [v0, v1, v2] (r.toList ++ []) h' Q) := R_stat (show mx_at 177 1 = some (.invokestatic 246, 3) by decide +kernel) (mx_clk ow177 cc12_246) (Nat.le_of_ble_eq_true rfl) rfl rfl (Nat.le_of_ble_eq_true rfl) ml174 (Nat.le_of_ble_eq_true rfl)
set_option maxRecDepth 20000 in
theorem i177_4 : ex_ X d 177 4 [v0, v1, v2] [.int x] h Q = if x = 0 then ex_ X d 177 15 [v0, v1, v2] [] h Q else ex_ X d 177 7 [v0, v1, v2] [] h Q := (R_br (show mx_at 177 4 = some (.ifCond .eq 11, 3) by decide +kernel) rfl rfl).trans mx_ite
set_option maxRecDepth 20000 in
theorem i177_7 : ex_ X d 177 7 [.ref a, v1, v2] [] h Q = ex_ X d 177 8 [.ref a, v1, v2] [.ref a] h Q := ex_nx (show mx_at 177 7 = some (.aload_n 0, 1) by decide +kernel) rfl
set_option maxRecDepth 20000 in
theorem i177_8 : ex_ X d 177 8 [v0, v1, .int x] [w0] h Q = ex_ X d 177 9 [v0, v1, .int x] [.int x, w0] h Q := ex_nx (show mx_at 177 8 = some (.iload_n 2, 1) by decide +kernel) rfl
set_option maxRecDepth 20000 in
theorem i177_9 (hc : co_ h a = some 12) : ex_ X (d + 1) 177 9 [v0, v1, v2] [.int x0, .ref a] h Q = ev_ X d 128 [.ref a, .int x0] h (fun r h' => ex_ X (d + 1) 177 12 [v0, v1, v2] (r.toList ++ []) h' Q) := R_vir (show mx_at 177 9 = some (.invokevirtual 205, 3) by decide +kernel) (mx_clk ow177 cc12_205) (Nat.le_of_ble_eq_true rfl) rfl rfl hc rfl (Nat.le_of_ble_eq_true rfl) (Nat.le_of_ble_eq_true rfl) (by rw [ml128]; exact Nat.le_of_ble_eq_true rfl)
set_option maxRecDepth 20000 in
theorem i177_12 : ex_ X d 177 12 [v0, v1, v2] [.int x] h Q = if ¬ x = 0 then ex_ X d 177 21 [v0, v1, v2] [] h Q else ex_ X d 177 15 [v0, v1, v2] [] h Q := (R_br (show mx_at 177 12 = some (.ifCond .ne 9, 3) by decide +kernel) rfl rfl).trans mx_ite
set_option maxRecDepth 20000 in
theorem i177_15 : ex_ X d 177 15 [.ref a, v1, v2] [] h Q = ex_ X d 177 16 [.ref a, v1, v2] [.ref a] h Q := ex_nx (show mx_at 177 15 = some (.aload_n 0, 1) by decide +kernel) rfl
set_option maxRecDepth 20000 in
theorem i177_16 : ex_ X d 177 16 [v0, v1, v2] [w0] h Q = ex_ X d 177 17 [v0, v1, v2] [.int 1, w0] h Q := R_iconst (show mx_at 177 16 = some (.iconst 1, 1) by decide +kernel) (by decide)
set_option maxRecDepth 20000 in
theorem i177_17 (hc : co_ h a = some 12) : ex_ X (d + 1) 177 17 [v0, v1, v2] [.int x0, .ref a] h Q = ev_ X d 123 [.ref a, .int x0] h (fun r h' => ex_ X (d + 1) 177 20 [v0, v1, v2] (r.toList ++ []) h' Q) := R_vir (show mx_at 177 17 = some (.invokevirtual 131, 3) by decide +kernel) (mx_clk ow177 cc12_131) (Nat.le_of_ble_eq_true rfl) rfl rfl hc rfl (Nat.le_of_ble_eq_true rfl) (Nat.le_of_ble_eq_true rfl) (by rw [ml123]; exact Nat.le_of_ble_eq_true rfl)
set_option maxRecDepth 20000 in
theorem i177_20 : ex_ X d 177 20 [v0, v1, v2] [.int x] h Q = Q (some (.int x)) h := ex_ret (show mx_at 177 20 = some (.ireturn, 1) by decide +kernel) (mx_retI rt177)
set_option maxRecDepth 20000 in
theorem i177_21 : ex_ X d 177 21 [.ref a, v1, v2] [] h Q = ex_ X d 177 22 [.ref a, v1, v2] [.ref a] h Q := ex_nx (show mx_at 177 21 = some (.aload_n 0, 1) by decide +kernel) rfl
set_option maxRecDepth 20000 in
theorem i177_22 : ex_ X d 177 22 [v0, .int x, v2] [w0] h Q = ex_ X d 177 23 [v0, .int x, v2] [.int x, w0] h Q := ex_nx (show mx_at 177 22 = some (.iload_n 1, 1) by decide +kernel) rfl
set_option maxRecDepth 20000 in
theorem i177_23 (hc : co_ h a = some 12) : ex_ X (d + 1) 177 23 [v0, v1, v2] [.int x0, .ref a] h Q = ev_ X d 175 [.ref a, .int x0] h (fun r h' => ex_ X (d + 1) 177 26 [v0, v1, v2] (r.toList ++ []) h' Q) := R_vir (show mx_at 177 23 = some (.invokevirtual 249, 3) by decide +kernel) (mx_clk ow177 cc12_249) (Nat.le_of_ble_eq_true rfl) rfl rfl hc rfl (Nat.le_of_ble_eq_true rfl) (Nat.le_of_ble_eq_true rfl) (by rw [ml175]; exact Nat.le_of_ble_eq_true rfl)
set_option maxRecDepth 20000 in
theorem i177_26 : ex_ X d 177 26 [.ref a, v1, v2] [] h Q = ex_ X d 177 27 [.ref a, v1, v2] [.ref a] h Q := ex_nx (show mx_at 177 26 = some (.aload_n 0, 1) by decide +kernel) rfl
set_option maxRecDepth 20000 in
theorem i177_27 : ex_ X d 177 27 [v0, v1, v2] [.ref a] h Q = (gk_ h a 1 [(12, 0)] = true ∧ ex_ X d 177 30 [v0, v1, v2] [gv_ h a 1] h Q) := R_getf (show mx_at 177 27 = some (.getfield 13, 3) by decide +kernel) (mx_fdo ow177 fd120013)
set_option maxRecDepth 20000 in
theorem i177_30 : ex_ X d 177 30 [v0, v1, .int x] [w0] h Q = ex_ X d 177 31 [v0, v1, .int x] [.int x, w0] h Q := ex_nx (show mx_at 177 30 = some (.iload_n 2, 1) by decide +kernel) rfl
set_option maxRecDepth 20000 in
theorem i177_31 : ex_ X d 177 31 [v0, v1, v2] [w0, w1] h Q = ex_ X d 177 32 [v0, v1, v2] [.int 3, w0, w1] h Q := R_iconst (show mx_at 177 31 = some (.iconst 3, 1) by decide +kernel) (by decide)
set_option maxRecDepth 20000 in
theorem i177_32 : ex_ X (d + 1) 177 32 [v0, v1, v2] [.int x2, .int x1, .ref a0] h Q = ev_ X d 130 [.ref a0, .int x1, .int x2] h (fun r h' => ex_ X (d + 1) 177 35 [v0, v1, v2] (r.toList ++ []) h' Q) := R_stat (show mx_at 177 32 = some (.invokestatic 202, 3) by decide +kernel) (mx_clk ow177 cc12_202) (Nat.le_of_ble_eq_true rfl) rfl rfl (Nat.le_of_ble_eq_true rfl) ml130 (Nat.le_of_ble_eq_true rfl)
set_option maxRecDepth 20000 in
theorem i177_35 : ex_ X d 177 35 [v0, v1, v2] [.int x] h Q = Q (some (.int x)) h := ex_ret (show mx_at 177 35 = some (.ireturn, 1) by decide +kernel) (mx_retI rt177)
theorem i177_e : ev_ X d 177 [.ref a, .int x0, .int x1] h Q = ex_ X d 177 0 [.ref a, .int x0, .int x1] [] h Q := by rw [ev_, ml177]; rfl
-- 178 X12_earnedIn
set_option maxRecDepth 20000 in
theorem i178_0 : ex_ X d 178 0 [v0, v1, v2] [] h Q = ex_ X d 178 1 [v0, v1, v2] [.int 0] h Q := R_iconst (show mx_at 178 0 = some (.iconst 0, 1) by decide +kernel) (by decide)
set_option maxRecDepth 20000 in
theorem i178_1 : ex_ X d 178 1 [v0, v1, v2] [.int x] h Q = (mx_nl v0 = true ∧ ex_ X d 178 2 [v0, .int x, v2] [] h Q) := mx_t1 (R_st (ok := mx_isI) (n := 1) (w := 1) (show mx_at 178 1 = some (.istore_n 1, 1) by decide +kernel) (fun _ _ => rfl) (Nat.le_of_ble_eq_true rfl)) rfl
set_option maxRecDepth 20000 in
theorem i178_2 : ex_ X d 178 2 [v0, v1, v2] [] h Q = ex_ X d 178 3 [v0, v1, v2] [.int 0] h Q := R_iconst (show mx_at 178 2 = some (.iconst 0, 1) by decide +kernel) (by decide)
set_option maxRecDepth 20000 in
theorem i178_3 : ex_ X d 178 3 [v0, v1, v2] [.int x] h Q = (mx_nl v1 = true ∧ ex_ X d 178 4 [v0, v1, .int x] [] h Q) := mx_t1 (R_st (ok := mx_isI) (n := 2) (w := 1) (show mx_at 178 3 = some (.istore_n 2, 1) by decide +kernel) (fun _ _ => rfl) (Nat.le_of_ble_eq_true rfl)) rfl
set_option maxRecDepth 20000 in
theorem i178_4 : ex_ X d 178 4 [v0, v1, .int x] [] h Q = ex_ X d 178 5 [v0, v1, .int x] [.int x] h Q := ex_nx (show mx_at 178 4 = some (.iload_n 2, 1) by decide +kernel) rfl
set_option maxRecDepth 20000 in
theorem i178_5 : ex_ X d 178 5 [.ref a, v1, v2] [w0] h Q = ex_ X d 178 6 [.ref a, v1, v2] [.ref a, w0] h Q := ex_nx (show mx_at 178 5 = some (.aload_n 0, 1) by decide +kernel) rfl
set_option maxRecDepth 20000 in
theorem i178_6 : ex_ X d 178 6 [v0, v1, v2] [w0, w1] h Q = ex_ X d 178 7 [v0, v1, v2] [.int 1, w0, w1] h Q := R_iconst (show mx_at 178 6 = some (.iconst 1, 1) by decide +kernel) (by decide)
set_option maxRecDepth 20000 in
theorem i178_7 : ex_ X d 178 7 [v0, v1, v2] [.int i, .ref a, w0] h Q = (ik_ h a i = true ∧ ex_ X d 178 8 [v0, v1, v2] [.int (ia_ h a i), w0] h Q) := R_iald (show mx_at 178 7 = some (.iaload, 1) by decide +kernel)
set_option maxRecDepth 20000 in
theorem i178_8 : ex_ X d 178 8 [v0, v1, v2] [.int y, .int x] h Q = if y ≤ x then ex_ X d 178 26 [v0, v1, v2] [] h Q else ex_ X d 178 11 [v0, v1, v2] [] h Q := (R_br (show mx_at 178 8 = some (.if_icmp .ge 18, 3) by decide +kernel) rfl rfl).trans mx_ite
set_option maxRecDepth 20000 in
theorem i178_11 : ex_ X d 178 11 [v0, .int x, v2] [] h Q = ex_ X d 178 12 [v0, .int x, v2] [.int x] h Q := ex_nx (show mx_at 178 11 = some (.iload_n 1, 1) by decide +kernel) rfl
set_option maxRecDepth 20000 in
theorem i178_12 : ex_ X d 178 12 [.ref a, v1, v2] [w0] h Q = ex_ X d 178 13 [.ref a, v1, v2] [.ref a, w0] h Q := ex_nx (show mx_at 178 12 = some (.aload_n 0, 1) by decide +kernel) rfl
set_option maxRecDepth 20000 in
theorem i178_13 : ex_ X d 178 13 [v0, v1, .int x] [w0, w1] h Q = ex_ X d 178 14 [v0, v1, .int x] [.int x, w0, w1] h Q := ex_nx (show mx_at 178 13 = some (.iload_n 2, 1) by decide +kernel) rfl
set_option maxRecDepth 20000 in
theorem i178_14 : ex_ X d 178 14 [v0, v1, v2] [w0, w1, w2] h Q = ex_ X d 178 15 [v0, v1, v2] [.int 5, w0, w1, w2] h Q := R_iconst (show mx_at 178 14 = some (.iconst 5, 1) by decide +kernel) (by decide)
set_option maxRecDepth 20000 in
theorem i178_15 : ex_ X (d + 1) 178 15 [v0, v1, v2] [.int x2, .int x1, .ref a0, w0] h Q = ev_ X d 129 [.ref a0, .int x1, .int x2] h (fun r h' => ex_ X (d + 1) 178 18 [v0, v1, v2] (r.toList ++ [w0]) h' Q) := R_stat (show mx_at 178 15 = some (.invokestatic 154, 3) by decide +kernel) (mx_clk ow178 cc12_154) (Nat.le_of_ble_eq_true rfl) rfl rfl (Nat.le_of_ble_eq_true rfl) ml129 (Nat.le_of_ble_eq_true rfl)
set_option maxRecDepth 20000 in
theorem i178_18 : ex_ X d 178 18 [v0, v1, v2] [.int y, .int x] h Q = ex_ X d 178 19 [v0, v1, v2] [.int (x + y)] h Q := ex_nx (show mx_at 178 18 = some (.iadd, 1) by decide +kernel) rfl
set_option maxRecDepth 20000 in
theorem i178_19 : ex_ X d 178 19 [v0, v1, v2] [.int x] h Q = (mx_nl v0 = true ∧ ex_ X d 178 20 [v0, .int x, v2] [] h Q) := mx_t1 (R_st (ok := mx_isI) (n := 1) (w := 1) (show mx_at 178 19 = some (.istore_n 1, 1) by decide +kernel) (fun _ _ => rfl) (Nat.le_of_ble_eq_true rfl)) rfl
set_option maxRecDepth 20000 in
theorem i178_20 : ex_ X d 178 20 [v0, v1, .int x] [] h Q = (mx_nl v1 = true ∧ ex_ X d 178 23 [v0, v1, .int (x + 1)] [] h Q) := R_iinc (n := 2) (c := 1) (show mx_at 178 20 = some (.iinc 2 1, 3) by decide +kernel) rfl
set_option maxRecDepth 20000 in
theorem i178_23 : ex_ X d 178 23 [v0, v1, v2] [] h Q = ex_ X d 178 4 [v0, v1, v2] [] h Q := R_to (show mx_at 178 23 = some (.goto (-19), 3) by decide +kernel) rfl rfl
set_option maxRecDepth 20000 in
theorem i178_26 : ex_ X d 178 26 [v0, .int x, v2] [] h Q = ex_ X d 178 27 [v0, .int x, v2] [.int x] h Q := ex_nx (show mx_at 178 26 = some (.iload_n 1, 1) by decide +kernel) rfl
set_option maxRecDepth 20000 in
theorem i178_27 : ex_ X d 178 27 [v0, v1, v2] [.int x] h Q = Q (some (.int x)) h := ex_ret (show mx_at 178 27 = some (.ireturn, 1) by decide +kernel) (mx_retI rt178)
theorem i178_e : ev_ X d 178 [.ref a0] h Q = ex_ X d 178 0 [.ref a0, .double 0, .double 0] [] h Q := by rw [ev_, ml178]; rfl
-- 179 X12_earned
set_option maxRecDepth 20000 in
theorem i179_0 : ex_ X d 179 0 [v0, .int x] [] h Q = ex_ X d 179 1 [v0, .int x] [.int x] h Q := ex_nx (show mx_at 179 0 = some (.iload_n 1, 1) by decide +kernel) rfl
set_option maxRecDepth 20000 in
theorem i179_1 : ex_ X (d + 1) 179 1 [v0, v1] [.int x0] h Q = ev_ X d 174 [.int x0] h (fun r h' => ex_ X (d + 1) 179 4 [v0, v1] (r.toList ++ []) h' Q) := R_stat (show mx_at 179 1 = some (.invokestatic 246, 3) by decide +kernel) (mx_clk ow179 cc12_246) (Nat.le_of_ble_eq_true rfl) rfl rfl (Nat.le_of_ble_eq_true rfl) ml174 (Nat.le_of_ble_eq_true rfl)
set_option maxRecDepth 20000 in
theorem i179_4 : ex_ X d 179 4 [v0, v1] [.int x] h Q = if ¬ x = 0 then ex_ X d 179 13 [v0, v1] [] h Q else ex_ X d 179 7 [v0, v1] [] h Q := (R_br (show mx_at 179 4 = some (.ifCond .ne 9, 3) by decide +kernel) rfl rfl).trans mx_ite
set_option maxRecDepth 20000 in
theorem i179_7 : ex_ X d 179 7 [.ref a, v1] [] h Q = ex_ X d 179 8 [.ref a, v1] [.ref a] h Q := ex_nx (show mx_at 179 7 = some (.aload_n 0, 1) by decide +kernel) rfl
set_option maxRecDepth 20000 in
theorem i179_8 : ex_ X d 179 8 [v0, v1] [w0] h Q = ex_ X d 179 9 [v0, v1] [.int 1, w0] h Q := R_iconst (show mx_at 179 8 = some (.iconst 1, 1) by decide +kernel) (by decide)
set_option maxRecDepth 20000 in
theorem i179_9 (hc : co_ h a = some 12) : ex_ X (d + 1) 179 9 [v0, v1] [.int x0, .ref a] h Q = ev_ X d 123 [.ref a, .int x0] h (fun r h' => ex_ X (d + 1) 179 12 [v0, v1] (r.toList ++ []) h' Q) := R_vir (show mx_at 179 9 = some (.invokevirtual 131, 3) by decide +kernel) (mx_clk ow179 cc12_131) (Nat.le_of_ble_eq_true rfl) rfl rfl hc rfl (Nat.le_of_ble_eq_true rfl) (Nat.le_of_ble_eq_true rfl) (by rw [ml123]; exact Nat.le_of_ble_eq_true rfl)
set_option maxRecDepth 20000 in
theorem i179_12 : ex_ X d 179 12 [v0, v1] [.int x] h Q = Q (some (.int x)) h := ex_ret (show mx_at 179 12 = some (.ireturn, 1) by decide +kernel) (mx_retI rt179)
set_option maxRecDepth 20000 in
theorem i179_13 : ex_ X d 179 13 [.ref a, v1] [] h Q = ex_ X d 179 14 [.ref a, v1] [.ref a] h Q := ex_nx (show mx_at 179 13 = some (.aload_n 0, 1) by decide +kernel) rfl
set_option maxRecDepth 20000 in
theorem i179_14 : ex_ X d 179 14 [v0, .int x] [w0] h Q = ex_ X d 179 15 [v0, .int x] [.int x, w0] h Q := ex_nx (show mx_at 179 14 = some (.iload_n 1, 1) by decide +kernel) rfl
set_option maxRecDepth 20000 in
theorem i179_15 (hc : co_ h a = some 12) : ex_ X (d + 1) 179 15 [v0, v1] [.int x0, .ref a] h Q = ev_ X d 175 [.ref a, .int x0] h (fun r h' => ex_ X (d + 1) 179 18 [v0, v1] (r.toList ++ []) h' Q) := R_vir (show mx_at 179 15 = some (.invokevirtual 249, 3) by decide +kernel) (mx_clk ow179 cc12_249) (Nat.le_of_ble_eq_true rfl) rfl rfl hc rfl (Nat.le_of_ble_eq_true rfl) (Nat.le_of_ble_eq_true rfl) (by rw [ml175]; exact Nat.le_of_ble_eq_true rfl)
set_option maxRecDepth 20000 in
theorem i179_18 : ex_ X d 179 18 [.ref a, v1] [] h Q = ex_ X d 179 19 [.ref a, v1] [.ref a] h Q := ex_nx (show mx_at 179 18 = some (.aload_n 0, 1) by decide +kernel) rfl
set_option maxRecDepth 20000 in
theorem i179_19 : ex_ X d 179 19 [v0, v1] [.ref a] h Q = (gk_ h a 1 [(12, 0)] = true ∧ ex_ X d 179 22 [v0, v1] [gv_ h a 1] h Q) := R_getf (show mx_at 179 19 = some (.getfield 13, 3) by decide +kernel) (mx_fdo ow179 fd120013)
set_option maxRecDepth 20000 in
theorem i179_22 : ex_ X (d + 1) 179 22 [v0, v1] [.ref a0] h Q = ev_ X d 178 [.ref a0] h (fun r h' => ex_ X (d + 1) 179 25 [v0, v1] (r.toList ++ []) h' Q) := R_stat (show mx_at 179 22 = some (.invokestatic 252, 3) by decide +kernel) (mx_clk ow179 cc12_252) (Nat.le_of_ble_eq_true rfl) rfl rfl (Nat.le_of_ble_eq_true rfl) ml178 (Nat.le_of_ble_eq_true rfl)
set_option maxRecDepth 20000 in
theorem i179_25 : ex_ X d 179 25 [v0, v1] [.int x] h Q = Q (some (.int x)) h := ex_ret (show mx_at 179 25 = some (.ireturn, 1) by decide +kernel) (mx_retI rt179)
theorem i179_e : ev_ X d 179 [.ref a, .int x0] h Q = ex_ X d 179 0 [.ref a, .int x0] [] h Q := by rw [ev_, ml179]; rfl
-- 180 X12_lost
set_option maxRecDepth 20000 in
theorem i180_0 : ex_ X d 180 0 [v0, .int x, v2, v3, v4, v5, v6, v7] [] h Q = ex_ X d 180 1 [v0, .int x, v2, v3, v4, v5, v6, v7] [.int x] h Q := ex_nx (show mx_at 180 0 = some (.iload_n 1, 1) by decide +kernel) rfl
set_option maxRecDepth 20000 in
theorem i180_1 : ex_ X (d + 1) 180 1 [v0, v1, v2, v3, v4, v5, v6, v7] [.int x0] h Q = ev_ X d 174 [.int x0] h (fun r h' => ex_ X (d + 1) 180 4 [v0, v1, v2, v3, v4, v5, v6, v7] (r.toList ++ []) h' Q) := R_stat (show mx_at 180 1 = some (.invokestatic 246, 3) by decide +kernel) (mx_clk ow180 cc12_246) (Nat.le_of_ble_eq_true rfl) rfl rfl (Nat.le_of_ble_eq_true rfl) ml174 (Nat.le_of_ble_eq_true rfl)
set_option maxRecDepth 20000 in
theorem i180_4 : ex_ X d 180 4 [v0, v1, v2, v3, v4, v5, v6, v7] [.int x] h Q = if ¬ x = 0 then ex_ X d 180 13 [v0, v1, v2, v3, v4, v5, v6, v7] [] h Q else ex_ X d 180 7 [v0, v1, v2, v3, v4, v5, v6, v7] [] h Q := (R_br (show mx_at 180 4 = some (.ifCond .ne 9, 3) by decide +kernel) rfl rfl).trans mx_ite
set_option maxRecDepth 20000 in
theorem i180_7 : ex_ X d 180 7 [.ref a, v1, v2, v3, v4, v5, v6, v7] [] h Q = ex_ X d 180 8 [.ref a, v1, v2, v3, v4, v5, v6, v7] [.ref a] h Q := ex_nx (show mx_at 180 7 = some (.aload_n 0, 1) by decide +kernel) rfl
set_option maxRecDepth 20000 in
theorem i180_8 : ex_ X d 180 8 [v0, v1, v2, v3, v4, v5, v6, v7] [w0] h Q = ex_ X d 180 9 [v0, v1, v2, v3, v4, v5, v6, v7] [.int 1, w0] h Q := R_iconst (show mx_at 180 8 = some (.iconst 1, 1) by decide +kernel) (by decide)
set_option maxRecDepth 20000 in
theorem i180_9 (hc : co_ h a = some 12) : ex_ X (d + 1) 180 9 [v0, v1, v2, v3, v4, v5, v6, v7] [.int x0, .ref a] h Q = ev_ X d 123 [.ref a, .int x0] h (fun r h' => ex_ X (d + 1) 180 12 [v0, v1, v2, v3, v4, v5, v6, v7] (r.toList ++ []) h' Q) := R_vir (show mx_at 180 9 = some (.invokevirtual 131, 3) by decide +kernel) (mx_clk ow180 cc12_131) (Nat.le_of_ble_eq_true rfl) rfl rfl hc rfl (Nat.le_of_ble_eq_true rfl) (Nat.le_of_ble_eq_true rfl) (by rw [ml123]; exact Nat.le_of_ble_eq_true rfl)
set_option maxRecDepth 20000 in
theorem i180_12 : ex_ X d 180 12 [v0, v1, v2, v3, v4, v5, v6, v7] [.int x] h Q = Q (some (.int x)) h := ex_ret (show mx_at 180 12 = some (.ireturn, 1) by decide +kernel) (mx_retI rt180)
set_option maxRecDepth 20000 in
theorem i180_13 : ex_ X d 180 13 [.ref a, v1, v2, v3, v4, v5, v6, v7] [] h Q = ex_ X d 180 14 [.ref a, v1, v2, v3, v4, v5, v6, v7] [.ref a] h Q := ex_nx (show mx_at 180 13 = some (.aload_n 0, 1) by decide +kernel) rfl
set_option maxRecDepth 20000 in
theorem i180_14 : ex_ X d 180 14 [v0, .int x, v2, v3, v4, v5, v6, v7] [w0] h Q = ex_ X d 180 15 [v0, .int x, v2, v3, v4, v5, v6, v7] [.int x, w0] h Q := ex_nx (show mx_at 180 14 = some (.iload_n 1, 1) by decide +kernel) rfl
set_option maxRecDepth 20000 in
theorem i180_15 (hc : co_ h a = some 12) : ex_ X (d + 1) 180 15 [v0, v1, v2, v3, v4, v5, v6, v7] [.int x0, .ref a] h Q = ev_ X d 175 [.ref a, .int x0] h (fun r h' => ex_ X (d + 1) 180 18 [v0, v1, v2, v3, v4, v5, v6, v7] (r.toList ++ []) h' Q) := R_vir (show mx_at 180 15 = some (.invokevirtual 249, 3) by decide +kernel) (mx_clk ow180 cc12_249) (Nat.le_of_ble_eq_true rfl) rfl rfl hc rfl (Nat.le_of_ble_eq_true rfl) (Nat.le_of_ble_eq_true rfl) (by rw [ml175]; exact Nat.le_of_ble_eq_true rfl)
set_option maxRecDepth 20000 in
theorem i180_18 : ex_ X d 180 18 [v0, v1, v2, v3, v4, v5, v6, v7] [] h Q = ex_ X d 180 19 [v0, v1, v2, v3, v4, v5, v6, v7] [.int 0] h Q := R_iconst (show mx_at 180 18 = some (.iconst 0, 1) by decide +kernel) (by decide)
set_option maxRecDepth 20000 in
theorem i180_19 : ex_ X d 180 19 [v0, v1, v2, v3, v4, v5, v6, v7] [.int x] h Q = (mx_nl v1 = true ∧ ex_ X d 180 20 [v0, v1, .int x, v3, v4, v5, v6, v7] [] h Q) := mx_t1 (R_st (ok := mx_isI) (n := 2) (w := 1) (show mx_at 180 19 = some (.istore_n 2, 1) by decide +kernel) (fun _ _ => rfl) (Nat.le_of_ble_eq_true rfl)) rfl
set_option maxRecDepth 20000 in
theorem i180_20 : ex_ X d 180 20 [v0, v1, v2, v3, v4, v5, v6, v7] [] h Q = ex_ X d 180 21 [v0, v1, v2, v3, v4, v5, v6, v7] [.int 0] h Q := R_iconst (show mx_at 180 20 = some (.iconst 0, 1) by decide +kernel) (by decide)
set_option maxRecDepth 20000 in
theorem i180_21 : ex_ X d 180 21 [v0, v1, v2, v3, v4, v5, v6, v7] [.int x] h Q = (mx_nl v2 = true ∧ ex_ X d 180 22 [v0, v1, v2, .int x, v4, v5, v6, v7] [] h Q) := mx_t1 (R_st (ok := mx_isI) (n := 3) (w := 1) (show mx_at 180 21 = some (.istore_n 3, 1) by decide +kernel) (fun _ _ => rfl) (Nat.le_of_ble_eq_true rfl)) rfl
set_option maxRecDepth 20000 in
theorem i180_22 : ex_ X d 180 22 [v0, v1, v2, .int x, v4, v5, v6, v7] [] h Q = ex_ X d 180 23 [v0, v1, v2, .int x, v4, v5, v6, v7] [.int x] h Q := ex_nx (show mx_at 180 22 = some (.iload_n 3, 1) by decide +kernel) rfl
set_option maxRecDepth 20000 in
theorem i180_23 : ex_ X d 180 23 [.ref a, v1, v2, v3, v4, v5, v6, v7] [w0] h Q = ex_ X d 180 24 [.ref a, v1, v2, v3, v4, v5, v6, v7] [.ref a, w0] h Q := ex_nx (show mx_at 180 23 = some (.aload_n 0, 1) by decide +kernel) rfl
set_option maxRecDepth 20000 in
theorem i180_24 : ex_ X d 180 24 [v0, v1, v2, v3, v4, v5, v6, v7] [.ref a, w0] h Q = (gk_ h a 1 [(12, 0)] = true ∧ ex_ X d 180 27 [v0, v1, v2, v3, v4, v5, v6, v7] [gv_ h a 1, w0] h Q) := R_getf (show mx_at 180 24 = some (.getfield 13, 3) by decide +kernel) (mx_fdo ow180 fd120013)
set_option maxRecDepth 20000 in
theorem i180_27 : ex_ X d 180 27 [v0, v1, v2, v3, v4, v5, v6, v7] [w0, w1] h Q = ex_ X d 180 28 [v0, v1, v2, v3, v4, v5, v6, v7] [.int 2, w0, w1] h Q := R_iconst (show mx_at 180 27 = some (.iconst 2, 1) by decide +kernel) (by decide)
set_option maxRecDepth 20000 in
theorem i180_28 : ex_ X d 180 28 [v0, v1, v2, v3, v4, v5, v6, v7] [.int i, .ref a, w0] h Q = (ik_ h a i = true ∧ ex_ X d 180 29 [v0, v1, v2, v3, v4, v5, v6, v7] [.int (ia_ h a i), w0] h Q) := R_iald (show mx_at 180 28 = some (.iaload, 1) by decide +kernel)
set_option maxRecDepth 20000 in
theorem i180_29 : ex_ X d 180 29 [v0, v1, v2, v3, v4, v5, v6, v7] [.int y, .int x] h Q = if y ≤ x then ex_ X d 180 154 [v0, v1, v2, v3, v4, v5, v6, v7] [] h Q else ex_ X d 180 32 [v0, v1, v2, v3, v4, v5, v6, v7] [] h Q := (R_br (show mx_at 180 29 = some (.if_icmp .ge 125, 3) by decide +kernel) rfl rfl).trans mx_ite
set_option maxRecDepth 20000 in
theorem i180_32 : ex_ X d 180 32 [.ref a, v1, v2, v3, v4, v5, v6, v7] [] h Q = ex_ X d 180 33 [.ref a, v1, v2, v3, v4, v5, v6, v7] [.ref a] h Q := ex_nx (show mx_at 180 32 = some (.aload_n 0, 1) by decide +kernel) rfl
set_option maxRecDepth 20000 in
theorem i180_33 : ex_ X d 180 33 [v0, v1, v2, v3, v4, v5, v6, v7] [.ref a] h Q = (gk_ h a 1 [(12, 0)] = true ∧ ex_ X d 180 36 [v0, v1, v2, v3, v4, v5, v6, v7] [gv_ h a 1] h Q) := R_getf (show mx_at 180 33 = some (.getfield 13, 3) by decide +kernel) (mx_fdo ow180 fd120013)
set_option maxRecDepth 20000 in
theorem i180_36 : ex_ X d 180 36 [v0, v1, v2, .int x, v4, v5, v6, v7] [w0] h Q = ex_ X d 180 37 [v0, v1, v2, .int x, v4, v5, v6, v7] [.int x, w0] h Q := ex_nx (show mx_at 180 36 = some (.iload_n 3, 1) by decide +kernel) rfl
set_option maxRecDepth 20000 in
theorem i180_37 : ex_ X d 180 37 [v0, v1, v2, v3, v4, v5, v6, v7] [w0, w1] h Q = ex_ X d 180 38 [v0, v1, v2, v3, v4, v5, v6, v7] [.int 3, w0, w1] h Q := R_iconst (show mx_at 180 37 = some (.iconst 3, 1) by decide +kernel) (by decide)
set_option maxRecDepth 20000 in
theorem i180_38 : ex_ X (d + 1) 180 38 [v0, v1, v2, v3, v4, v5, v6, v7] [.int x2, .int x1, .ref a0] h Q = ev_ X d 130 [.ref a0, .int x1, .int x2] h (fun r h' => ex_ X (d + 1) 180 41 [v0, v1, v2, v3, v4, v5, v6, v7] (r.toList ++ []) h' Q) := R_stat (show mx_at 180 38 = some (.invokestatic 202, 3) by decide +kernel) (mx_clk ow180 cc12_202) (Nat.le_of_ble_eq_true rfl) rfl rfl (Nat.le_of_ble_eq_true rfl) ml130 (Nat.le_of_ble_eq_true rfl)
set_option maxRecDepth 20000 in
theorem i180_41 : ex_ X d 180 41 [v0, v1, v2, v3, v4, v5, v6, v7] [.int x] h Q = (mx_nl v3 = true ∧ ex_ X d 180 43 [v0, v1, v2, v3, .int x, v5, v6, v7] [] h Q) := mx_t1 (R_st (ok := mx_isI) (n := 4) (w := 2) (show mx_at 180 41 = some (.istore 4, 2) by decide +kernel) (fun _ _ => rfl) (Nat.le_of_ble_eq_true rfl)) rfl
set_option maxRecDepth 20000 in
theorem i180_43 : ex_ X d 180 43 [v0, v1, v2, v3, v4, v5, v6, v7] [] h Q = ex_ X d 180 44 [v0, v1, v2, v3, v4, v5, v6, v7] [.int 0] h Q := R_iconst (show mx_at 180 43 = some (.iconst 0, 1) by decide +kernel) (by decide)
set_option maxRecDepth 20000 in
theorem i180_44 : ex_ X d 180 44 [v0, v1, v2, v3, v4, v5, v6, v7] [.int x] h Q = (mx_nl v4 = true ∧ ex_ X d 180 46 [v0, v1, v2, v3, v4, .int x, v6, v7] [] h Q) := mx_t1 (R_st (ok := mx_isI) (n := 5) (w := 2) (show mx_at 180 44 = some (.istore 5, 2) by decide +kernel) (fun _ _ => rfl) (Nat.le_of_ble_eq_true rfl)) rfl
set_option maxRecDepth 20000 in
theorem i180_46 : ex_ X d 180 46 [v0, v1, v2, v3, v4, .int x, v6, v7] [] h Q = ex_ X d 180 48 [v0, v1, v2, v3, v4, .int x, v6, v7] [.int x] h Q := ex_nx (show mx_at 180 46 = some (.iload 5, 2) by decide +kernel) rfl
set_option maxRecDepth 20000 in
theorem i180_48 : ex_ X d 180 48 [.ref a, v1, v2, v3, v4, v5, v6, v7] [w0] h Q = ex_ X d 180 49 [.ref a, v1, v2, v3, v4, v5, v6, v7] [.ref a, w0] h Q := ex_nx (show mx_at 180 48 = some (.aload_n 0, 1) by decide +kernel) rfl
set_option maxRecDepth 20000 in
theorem i180_49 : ex_ X d 180 49 [v0, v1, v2, v3, v4, v5, v6, v7] [.ref a, w0] h Q = (gk_ h a 1 [(12, 0)] = true ∧ ex_ X d 180 52 [v0, v1, v2, v3, v4, v5, v6, v7] [gv_ h a 1, w0] h Q) := R_getf (show mx_at 180 49 = some (.getfield 13, 3) by decide +kernel) (mx_fdo ow180 fd120013)
set_option maxRecDepth 20000 in
theorem i180_52 : ex_ X d 180 52 [v0, v1, v2, v3, v4, v5, v6, v7] [w0, w1] h Q = ex_ X d 180 53 [v0, v1, v2, v3, v4, v5, v6, v7] [.int 1, w0, w1] h Q := R_iconst (show mx_at 180 52 = some (.iconst 1, 1) by decide +kernel) (by decide)
set_option maxRecDepth 20000 in
theorem i180_53 : ex_ X d 180 53 [v0, v1, v2, v3, v4, v5, v6, v7] [.int i, .ref a, w0] h Q = (ik_ h a i = true ∧ ex_ X d 180 54 [v0, v1, v2, v3, v4, v5, v6, v7] [.int (ia_ h a i), w0] h Q) := R_iald (show mx_at 180 53 = some (.iaload, 1) by decide +kernel)
set_option maxRecDepth 20000 in
theorem i180_54 : ex_ X d 180 54 [v0, v1, v2, v3, v4, v5, v6, v7] [.int y, .int x] h Q = if y ≤ x then ex_ X d 180 148 [v0, v1, v2, v3, v4, v5, v6, v7] [] h Q else ex_ X d 180 57 [v0, v1, v2, v3, v4, v5, v6, v7] [] h Q := (R_br (show mx_at 180 54 = some (.if_icmp .ge 94, 3) by decide +kernel) rfl rfl).trans mx_ite
set_option maxRecDepth 20000 in
theorem i180_57 : ex_ X d 180 57 [.ref a, v1, v2, v3, v4, v5, v6, v7] [] h Q = ex_ X d 180 58 [.ref a, v1, v2, v3, v4, v5, v6, v7] [.ref a] h Q := ex_nx (show mx_at 180 57 = some (.aload_n 0, 1) by decide +kernel) rfl
set_option maxRecDepth 20000 in
theorem i180_58 : ex_ X d 180 58 [v0, v1, v2, v3, v4, v5, v6, v7] [.ref a] h Q = (gk_ h a 1 [(12, 0)] = true ∧ ex_ X d 180 61 [v0, v1, v2, v3, v4, v5, v6, v7] [gv_ h a 1] h Q) := R_getf (show mx_at 180 58 = some (.getfield 13, 3) by decide +kernel) (mx_fdo ow180 fd120013)
set_option maxRecDepth 20000 in
theorem i180_61 : ex_ X d 180 61 [v0, v1, v2, v3, v4, .int x, v6, v7] [w0] h Q = ex_ X d 180 63 [v0, v1, v2, v3, v4, .int x, v6, v7] [.int x, w0] h Q := ex_nx (show mx_at 180 61 = some (.iload 5, 2) by decide +kernel) rfl
set_option maxRecDepth 20000 in
theorem i180_63 : ex_ X d 180 63 [v0, v1, v2, v3, v4, v5, v6, v7] [w0, w1] h Q = ex_ X d 180 64 [v0, v1, v2, v3, v4, v5, v6, v7] [.int 4, w0, w1] h Q := R_iconst (show mx_at 180 63 = some (.iconst 4, 1) by decide +kernel) (by decide)
set_option maxRecDepth 20000 in
theorem i180_64 : ex_ X (d + 1) 180 64 [v0, v1, v2, v3, v4, v5, v6, v7] [.int x2, .int x1, .ref a0] h Q = ev_ X d 129 [.ref a0, .int x1, .int x2] h (fun r h' => ex_ X (d + 1) 180 67 [v0, v1, v2, v3, v4, v5, v6, v7] (r.toList ++ []) h' Q) := R_stat (show mx_at 180 64 = some (.invokestatic 154, 3) by decide +kernel) (mx_clk ow180 cc12_154) (Nat.le_of_ble_eq_true rfl) rfl rfl (Nat.le_of_ble_eq_true rfl) ml129 (Nat.le_of_ble_eq_true rfl)
set_option maxRecDepth 20000 in
theorem i180_67 : ex_ X d 180 67 [v0, v1, v2, v3, v4, v5, v6, v7] [.int x] h Q = (mx_nl v5 = true ∧ ex_ X d 180 69 [v0, v1, v2, v3, v4, v5, .int x, v7] [] h Q) := mx_t1 (R_st (ok := mx_isI) (n := 6) (w := 2) (show mx_at 180 67 = some (.istore 6, 2) by decide +kernel) (fun _ _ => rfl) (Nat.le_of_ble_eq_true rfl)) rfl
set_option maxRecDepth 20000 in
theorem i180_69 : ex_ X d 180 69 [.ref a, v1, v2, v3, v4, v5, v6, v7] [] h Q = ex_ X d 180 70 [.ref a, v1, v2, v3, v4, v5, v6, v7] [.ref a] h Q := ex_nx (show mx_at 180 69 = some (.aload_n 0, 1) by decide +kernel) rfl
set_option maxRecDepth 20000 in
theorem i180_70 : ex_ X d 180 70 [v0, v1, v2, v3, v4, v5, v6, v7] [.ref a] h Q = (gk_ h a 1 [(12, 0)] = true ∧ ex_ X d 180 73 [v0, v1, v2, v3, v4, v5, v6, v7] [gv_ h a 1] h Q) := R_getf (show mx_at 180 70 = some (.getfield 13, 3) by decide +kernel) (mx_fdo ow180 fd120013)
set_option maxRecDepth 20000 in
theorem i180_73 : ex_ X d 180 73 [v0, v1, v2, v3, v4, .int x, v6, v7] [w0] h Q = ex_ X d 180 75 [v0, v1, v2, v3, v4, .int x, v6, v7] [.int x, w0] h Q := ex_nx (show mx_at 180 73 = some (.iload 5, 2) by decide +kernel) rfl
set_option maxRecDepth 20000 in
theorem i180_75 : ex_ X d 180 75 [v0, v1, v2, v3, v4, v5, v6, v7] [w0, w1] h Q = ex_ X d 180 76 [v0, v1, v2, v3, v4, v5, v6, v7] [.int 2, w0, w1] h Q := R_iconst (show mx_at 180 75 = some (.iconst 2, 1) by decide +kernel) (by decide)
set_option maxRecDepth 20000 in
theorem i180_76 : ex_ X (d + 1) 180 76 [v0, v1, v2, v3, v4, v5, v6, v7] [.int x2, .int x1, .ref a0] h Q = ev_ X d 129 [.ref a0, .int x1, .int x2] h (fun r h' => ex_ X (d + 1) 180 79 [v0, v1, v2, v3, v4, v5, v6, v7] (r.toList ++ []) h' Q) := R_stat (show mx_at 180 76 = some (.invokestatic 154, 3) by decide +kernel) (mx_clk ow180 cc12_154) (Nat.le_of_ble_eq_true rfl) rfl rfl (Nat.le_of_ble_eq_true rfl) ml129 (Nat.le_of_ble_eq_true rfl)
set_option maxRecDepth 20000 in
theorem i180_79 : ex_ X d 180 79 [.ref a, v1, v2, v3, v4, v5, v6, v7] [w0] h Q = ex_ X d 180 80 [.ref a, v1, v2, v3, v4, v5, v6, v7] [.ref a, w0] h Q := ex_nx (show mx_at 180 79 = some (.aload_n 0, 1) by decide +kernel) rfl
set_option maxRecDepth 20000 in
theorem i180_80 : ex_ X d 180 80 [v0, v1, v2, v3, v4, v5, v6, v7] [.ref a, w0] h Q = (gk_ h a 1 [(12, 0)] = true ∧ ex_ X d 180 83 [v0, v1, v2, v3, v4, v5, v6, v7] [gv_ h a 1, w0] h Q) := R_getf (show mx_at 180 80 = some (.getfield 13, 3) by decide +kernel) (mx_fdo ow180 fd120013)
set_option maxRecDepth 20000 in
theorem i180_83 : ex_ X d 180 83 [v0, v1, v2, .int x, v4, v5, v6, v7] [w0, w1] h Q = ex_ X d 180 84 [v0, v1, v2, .int x, v4, v5, v6, v7] [.int x, w0, w1] h Q := ex_nx (show mx_at 180 83 = some (.iload_n 3, 1) by decide +kernel) rfl
set_option maxRecDepth 20000 in
theorem i180_84 : ex_ X (d + 1) 180 84 [v0, v1, v2, v3, v4, v5, v6, v7] [.int x1, .ref a0, w0] h Q = ev_ X d 163 [.ref a0, .int x1] h (fun r h' => ex_ X (d + 1) 180 87 [v0, v1, v2, v3, v4, v5, v6, v7] (r.toList ++ [w0]) h' Q) := R_stat (show mx_at 180 84 = some (.invokestatic 210, 3) by decide +kernel) (mx_clk ow180 cc12_210) (Nat.le_of_ble_eq_true rfl) rfl rfl (Nat.le_of_ble_eq_true rfl) ml163 (Nat.le_of_ble_eq_true rfl)
set_option maxRecDepth 20000 in
theorem i180_87 : ex_ X d 180 87 [v0, v1, v2, v3, v4, v5, v6, v7] [.int y, .int x] h Q = if x ≤ y then ex_ X d 180 94 [v0, v1, v2, v3, v4, v5, v6, v7] [] h Q else ex_ X d 180 90 [v0, v1, v2, v3, v4, v5, v6, v7] [] h Q := (R_br (show mx_at 180 87 = some (.if_icmp .le 7, 3) by decide +kernel) rfl rfl).trans mx_ite
set_option maxRecDepth 20000 in
theorem i180_90 : ex_ X d 180 90 [v0, v1, v2, v3, v4, v5, v6, v7] [] h Q = ex_ X d 180 91 [v0, v1, v2, v3, v4, v5, v6, v7] [.int 0] h Q := R_iconst (show mx_at 180 90 = some (.iconst 0, 1) by decide +kernel) (by decide)
set_option maxRecDepth 20000 in
theorem i180_91 : ex_ X d 180 91 [v0, v1, v2, v3, v4, v5, v6, v7] [w0] h Q = ex_ X d 180 108 [v0, v1, v2, v3, v4, v5, v6, v7] [w0] h Q := R_to (show mx_at 180 91 = some (.goto 17, 3) by decide +kernel) rfl rfl
set_option maxRecDepth 20000 in
theorem i180_94 : ex_ X d 180 94 [v0, v1, v2, v3, .int x, v5, v6, v7] [] h Q = ex_ X d 180 96 [v0, v1, v2, v3, .int x, v5, v6, v7] [.int x] h Q := ex_nx (show mx_at 180 94 = some (.iload 4, 2) by decide +kernel) rfl
set_option maxRecDepth 20000 in
theorem i180_96 : ex_ X d 180 96 [v0, v1, v2, v3, v4, v5, .int x, v7] [w0] h Q = ex_ X d 180 98 [v0, v1, v2, v3, v4, v5, .int x, v7] [.int x, w0] h Q := ex_nx (show mx_at 180 96 = some (.iload 6, 2) by decide +kernel) rfl
set_option maxRecDepth 20000 in
theorem i180_98 : ex_ X d 180 98 [v0, v1, v2, v3, v4, v5, v6, v7] [.int y, .int x] h Q = if y ≤ x then ex_ X d 180 106 [v0, v1, v2, v3, v4, v5, v6, v7] [] h Q else ex_ X d 180 101 [v0, v1, v2, v3, v4, v5, v6, v7] [] h Q := (R_br (show mx_at 180 98 = some (.if_icmp .ge 8, 3) by decide +kernel) rfl rfl).trans mx_ite
set_option maxRecDepth 20000 in
theorem i180_101 : ex_ X d 180 101 [v0, v1, v2, v3, .int x, v5, v6, v7] [] h Q = ex_ X d 180 103 [v0, v1, v2, v3, .int x, v5, v6, v7] [.int x] h Q := ex_nx (show mx_at 180 101 = some (.iload 4, 2) by decide +kernel) rfl
set_option maxRecDepth 20000 in
theorem i180_103 : ex_ X d 180 103 [v0, v1, v2, v3, v4, v5, v6, v7] [w0] h Q = ex_ X d 180 108 [v0, v1, v2, v3, v4, v5, v6, v7] [w0] h Q := R_to (show mx_at 180 103 = some (.goto 5, 3) by decide +kernel) rfl rfl
set_option maxRecDepth 20000 in
theorem i180_106 : ex_ X d 180 106 [v0, v1, v2, v3, v4, v5, .int x, v7] [] h Q = ex_ X d 180 108 [v0, v1, v2, v3, v4, v5, .int x, v7] [.int x] h Q := ex_nx (show mx_at 180 106 = some (.iload 6, 2) by decide +kernel) rfl
set_option maxRecDepth 20000 in
theorem i180_108 : ex_ X d 180 108 [v0, v1, v2, v3, v4, v5, v6, v7] [.int x] h Q = (mx_nl v6 = true ∧ ex_ X d 180 110 [v0, v1, v2, v3, v4, v5, v6, .int x] [] h Q) := mx_t1 (R_st (ok := mx_isI) (n := 7) (w := 2) (show mx_at 180 108 = some (.istore 7, 2) by decide +kernel) (fun _ _ => rfl) (Nat.le_of_ble_eq_true rfl)) rfl
set_option maxRecDepth 20000 in
theorem i180_110 : ex_ X d 180 110 [.ref a, v1, v2, v3, v4, v5, v6, v7] [] h Q = ex_ X d 180 111 [.ref a, v1, v2, v3, v4, v5, v6, v7] [.ref a] h Q := ex_nx (show mx_at 180 110 = some (.aload_n 0, 1) by decide +kernel) rfl
set_option maxRecDepth 20000 in
theorem i180_111 : ex_ X d 180 111 [v0, v1, v2, v3, v4, v5, v6, v7] [.ref a] h Q = (gk_ h a 1 [(12, 0)] = true ∧ ex_ X d 180 114 [v0, v1, v2, v3, v4, v5, v6, v7] [gv_ h a 1] h Q) := R_getf (show mx_at 180 111 = some (.getfield 13, 3) by decide +kernel) (mx_fdo ow180 fd120013)
set_option maxRecDepth 20000 in
theorem i180_114 : ex_ X d 180 114 [v0, v1, v2, v3, v4, v5, v6, v7] [w0] h Q = ex_ X d 180 116 [v0, v1, v2, v3, v4, v5, v6, v7] [.int 20, w0] h Q := R_bipush (show mx_at 180 114 = some (.bipush 20, 2) by decide +kernel) (by decide)
set_option maxRecDepth 20000 in
theorem i180_116 : ex_ X d 180 116 [v0, v1, v2, v3, v4, v5, v6, v7] [w0, w1] h Q = ex_ X d 180 118 [v0, v1, v2, v3, v4, v5, v6, v7] [.int 8, w0, w1] h Q := R_bipush (show mx_at 180 116 = some (.bipush 8, 2) by decide +kernel) (by decide)
set_option maxRecDepth 20000 in
theorem i180_118 : ex_ X d 180 118 [v0, v1, v2, v3, v4, .int x, v6, v7] [w0, w1, w2] h Q = ex_ X d 180 120 [v0, v1, v2, v3, v4, .int x, v6, v7] [.int x, w0, w1, w2] h Q := ex_nx (show mx_at 180 118 = some (.iload 5, 2) by decide +kernel) rfl
set_option maxRecDepth 20000 in
theorem i180_120 : ex_ X d 180 120 [v0, v1, v2, v3, v4, v5, v6, v7] [.int y, .int x, w0, w1] h Q = ex_ X d 180 121 [v0, v1, v2, v3, v4, v5, v6, v7] [.int (x * y), w0, w1] h Q := ex_nx (show mx_at 180 120 = some (.imul, 1) by decide +kernel) rfl
set_option maxRecDepth 20000 in
theorem i180_121 : ex_ X d 180 121 [v0, v1, v2, v3, v4, v5, v6, v7] [.int y, .int x, w0] h Q = ex_ X d 180 122 [v0, v1, v2, v3, v4, v5, v6, v7] [.int (x + y), w0] h Q := ex_nx (show mx_at 180 121 = some (.iadd, 1) by decide +kernel) rfl
set_option maxRecDepth 20000 in
theorem i180_122 : ex_ X d 180 122 [v0, v1, v2, v3, v4, v5, v6, v7] [w0, w1] h Q = ex_ X d 180 123 [v0, v1, v2, v3, v4, v5, v6, v7] [.int 4, w0, w1] h Q := R_iconst (show mx_at 180 122 = some (.iconst 4, 1) by decide +kernel) (by decide)
set_option maxRecDepth 20000 in
theorem i180_123 : ex_ X d 180 123 [v0, v1, v2, v3, v4, v5, v6, v7] [.int y, .int x, w0] h Q = ex_ X d 180 124 [v0, v1, v2, v3, v4, v5, v6, v7] [.int (x + y), w0] h Q := ex_nx (show mx_at 180 123 = some (.iadd, 1) by decide +kernel) rfl
set_option maxRecDepth 20000 in
theorem i180_124 : ex_ X d 180 124 [v0, v1, v2, v3, v4, v5, v6, v7] [.int x, .ref a] h Q = ex_ X d 180 125 [v0, v1, v2, v3, v4, v5, v6, v7] [.int x, .ref a, .int x, .ref a] h Q := ex_nx (show mx_at 180 124 = some (.dup2, 1) by decide +kernel) rfl
set_option maxRecDepth 20000 in
theorem i180_125 : ex_ X d 180 125 [v0, v1, v2, v3, v4, v5, v6, v7] [.int i, .ref a, w0, w1] h Q = (ik_ h a i = true ∧ ex_ X d 180 126 [v0, v1, v2, v3, v4, v5, v6, v7] [.int (ia_ h a i), w0, w1] h Q) := R_iald (show mx_at 180 125 = some (.iaload, 1) by decide +kernel)
set_option maxRecDepth 20000 in
theorem i180_126 : ex_ X d 180 126 [v0, v1, v2, v3, v4, v5, v6, .int x] [w0, w1, w2] h Q = ex_ X d 180 128 [v0, v1, v2, v3, v4, v5, v6, .int x] [.int x, w0, w1, w2] h Q := ex_nx (show mx_at 180 126 = some (.iload 7, 2) by decide +kernel) rfl
set_option maxRecDepth 20000 in
theorem i180_128 : ex_ X d 180 128 [v0, v1, v2, v3, v4, v5, v6, v7] [.int y, .int x, w0, w1] h Q = ex_ X d 180 129 [v0, v1, v2, v3, v4, v5, v6, v7] [.int (x - y), w0, w1] h Q := ex_nx (show mx_at 180 128 = some (.isub, 1) by decide +kernel) rfl
set_option maxRecDepth 20000 in
theorem i180_129 : ex_ X d 180 129 [v0, v1, v2, v3, v4, v5, v6, v7] [.int x, .int i, .ref a] h Q = (ik_ h a i = true ∧ ex_ X d 180 130 [v0, v1, v2, v3, v4, v5, v6, v7] [] (is_ h a i x) Q) := R_iast (show mx_at 180 129 = some (.iastore, 1) by decide +kernel)
set_option maxRecDepth 20000 in
theorem i180_130 : ex_ X d 180 130 [v0, v1, v2, v3, .int x, v5, v6, v7] [] h Q = ex_ X d 180 132 [v0, v1, v2, v3, .int x, v5, v6, v7] [.int x] h Q := ex_nx (show mx_at 180 130 = some (.iload 4, 2) by decide +kernel) rfl
set_option maxRecDepth 20000 in
theorem i180_132 : ex_ X d 180 132 [v0, v1, v2, v3, v4, v5, v6, .int x] [w0] h Q = ex_ X d 180 134 [v0, v1, v2, v3, v4, v5, v6, .int x] [.int x, w0] h Q := ex_nx (show mx_at 180 132 = some (.iload 7, 2) by decide +kernel) rfl
set_option maxRecDepth 20000 in
theorem i180_134 : ex_ X d 180 134 [v0, v1, v2, v3, v4, v5, v6, v7] [.int y, .int x] h Q = ex_ X d 180 135 [v0, v1, v2, v3, v4, v5, v6, v7] [.int (x - y)] h Q := ex_nx (show mx_at 180 134 = some (.isub, 1) by decide +kernel) rfl
set_option maxRecDepth 20000 in
theorem i180_135 : ex_ X d 180 135 [v0, v1, v2, v3, v4, v5, v6, v7] [.int x] h Q = (mx_nl v3 = true ∧ ex_ X d 180 137 [v0, v1, v2, v3, .int x, v5, v6, v7] [] h Q) := mx_t1 (R_st (ok := mx_isI) (n := 4) (w := 2) (show mx_at 180 135 = some (.istore 4, 2) by decide +kernel) (fun _ _ => rfl) (Nat.le_of_ble_eq_true rfl)) rfl
set_option maxRecDepth 20000 in
theorem i180_137 : ex_ X d 180 137 [v0, v1, .int x, v3, v4, v5, v6, v7] [] h Q = ex_ X d 180 138 [v0, v1, .int x, v3, v4, v5, v6, v7] [.int x] h Q := ex_nx (show mx_at 180 137 = some (.iload_n 2, 1) by decide +kernel) rfl
set_option maxRecDepth 20000 in
theorem i180_138 : ex_ X d 180 138 [v0, v1, v2, v3, v4, v5, v6, .int x] [w0] h Q = ex_ X d 180 140 [v0, v1, v2, v3, v4, v5, v6, .int x] [.int x, w0] h Q := ex_nx (show mx_at 180 138 = some (.iload 7, 2) by decide +kernel) rfl
set_option maxRecDepth 20000 in
theorem i180_140 : ex_ X d 180 140 [v0, v1, v2, v3, v4, v5, v6, v7] [.int y, .int x] h Q = ex_ X d 180 141 [v0, v1, v2, v3, v4, v5, v6, v7] [.int (x + y)] h Q := ex_nx (show mx_at 180 140 = some (.iadd, 1) by decide +kernel) rfl
set_option maxRecDepth 20000 in
theorem i180_141 : ex_ X d 180 141 [v0, v1, v2, v3, v4, v5, v6, v7] [.int x] h Q = (mx_nl v1 = true ∧ ex_ X d 180 142 [v0, v1, .int x, v3, v4, v5, v6, v7] [] h Q) := mx_t1 (R_st (ok := mx_isI) (n := 2) (w := 1) (show mx_at 180 141 = some (.istore_n 2, 1) by decide +kernel) (fun _ _ => rfl) (Nat.le_of_ble_eq_true rfl)) rfl
set_option maxRecDepth 20000 in
theorem i180_142 : ex_ X d 180 142 [v0, v1, v2, v3, v4, .int x, v6, v7] [] h Q = (mx_nl v4 = true ∧ ex_ X d 180 145 [v0, v1, v2, v3, v4, .int (x + 1), v6, v7] [] h Q) := R_iinc (n := 5) (c := 1) (show mx_at 180 142 = some (.iinc 5 1, 3) by decide +kernel) rfl
set_option maxRecDepth 20000 in
theorem i180_145 : ex_ X d 180 145 [v0, v1, v2, v3, v4, v5, v6, v7] [] h Q = ex_ X d 180 46 [v0, v1, v2, v3, v4, v5, v6, v7] [] h Q := R_to (show mx_at 180 145 = some (.goto (-99), 3) by decide +kernel) rfl rfl
set_option maxRecDepth 20000 in
theorem i180_148 : ex_ X d 180 148 [v0, v1, v2, .int x, v4, v5, v6, v7] [] h Q = (mx_nl v2 = true ∧ ex_ X d 180 151 [v0, v1, v2, .int (x + 1), v4, v5, v6, v7] [] h Q) := R_iinc (n := 3) (c := 1) (show mx_at 180 148 = some (.iinc 3 1, 3) by decide +kernel) rfl
set_option maxRecDepth 20000 in
theorem i180_151 : ex_ X d 180 151 [v0, v1, v2, v3, v4, v5, v6, v7] [] h Q = ex_ X d 180 22 [v0, v1, v2, v3, v4, v5, v6, v7] [] h Q := R_to (show mx_at 180 151 = some (.goto (-129), 3) by decide +kernel) rfl rfl
set_option maxRecDepth 20000 in
theorem i180_154 : ex_ X d 180 154 [v0, v1, .int x, v3, v4, v5, v6, v7] [] h Q = ex_ X d 180 155 [v0, v1, .int x, v3, v4, v5, v6, v7] [.int x] h Q := ex_nx (show mx_at 180 154 = some (.iload_n 2, 1) by decide +kernel) rfl
set_option maxRecDepth 20000 in
theorem i180_155 : ex_ X d 180 155 [v0, v1, v2, v3, v4, v5, v6, v7] [.int x] h Q = Q (some (.int x)) h := ex_ret (show mx_at 180 155 = some (.ireturn, 1) by decide +kernel) (mx_retI rt180)
theorem i180_e : ev_ X d 180 [.ref a, .int x0] h Q = ex_ X d 180 0 [.ref a, .int x0, .double 0, .double 0, .double 0, .double 0, .double 0, .double 0] [] h Q := by rw [ev_, ml180]; rfl
-- 181 X12_begin
set_option maxRecDepth 20000 in
theorem i181_0 : ex_ X d 181 0 [.ref a, v1, v2, v3, v4, v5, v6] [] h Q = ex_ X d 181 1 [.ref a, v1, v2, v3, v4, v5, v6] [.ref a] h Q := ex_nx (show mx_at 181 0 = some (.aload_n 0, 1) by decide +kernel) rfl
set_option maxRecDepth 20000 in
theorem i181_1 : ex_ X d 181 1 [v0, .int x, v2, v3, v4, v5, v6] [w0] h Q = ex_ X d 181 2 [v0, .int x, v2, v3, v4, v5, v6] [.int x, w0] h Q := ex_nx (show mx_at 181 1 = some (.iload_n 1, 1) by decide +kernel) rfl
set_option maxRecDepth 20000 in
theorem i181_2 (hc : co_ h a = some 12) : ex_ X (d + 1) 181 2 [v0, v1, v2, v3, v4, v5, v6] [.int x0, .ref a] h Q = ev_ X d 127 [.ref a, .int x0] h (fun r h' => ex_ X (d + 1) 181 5 [v0, v1, v2, v3, v4, v5, v6] (r.toList ++ []) h' Q) := R_vir (show mx_at 181 2 = some (.invokevirtual 173, 3) by decide +kernel) (mx_clk ow181 cc12_173) (Nat.le_of_ble_eq_true rfl) rfl rfl hc rfl (Nat.le_of_ble_eq_true rfl) (Nat.le_of_ble_eq_true rfl) (by rw [ml127]; exact Nat.le_of_ble_eq_true rfl)
set_option maxRecDepth 20000 in
theorem i181_5 : ex_ X d 181 5 [v0, v1, v2, v3, v4, v5, v6] [.int x] h Q = if x = 0 then ex_ X d 181 20 [v0, v1, v2, v3, v4, v5, v6] [] h Q else ex_ X d 181 8 [v0, v1, v2, v3, v4, v5, v6] [] h Q := (R_br (show mx_at 181 5 = some (.ifCond .eq 15, 3) by decide +kernel) rfl rfl).trans mx_ite
set_option maxRecDepth 20000 in
theorem i181_8 : ex_ X d 181 8 [v0, v1, .int x, v3, v4, v5, v6] [] h Q = ex_ X d 181 9 [v0, v1, .int x, v3, v4, v5, v6] [.int x] h Q := ex_nx (show mx_at 181 8 = some (.iload_n 2, 1) by decide +kernel) rfl
set_option maxRecDepth 20000 in
theorem i181_9 : ex_ X d 181 9 [v0, v1, v2, v3, v4, v5, v6] [.int x] h Q = ex_ X d 181 10 [v0, v1, v2, v3, v4, v5, v6] [.long x.toInt64] h Q := ex_nx (show mx_at 181 9 = some (.i2l, 1) by decide +kernel) rfl
set_option maxRecDepth 20000 in
theorem i181_10 : ex_ X d 181 10 [v0, v1, v2, v3, v4, v5, v6] [w0] h Q = ex_ X d 181 11 [v0, v1, v2, v3, v4, v5, v6] [.long 1, w0] h Q := ex_nx (show mx_at 181 10 = some (.lconst 1, 1) by decide +kernel) rfl
set_option maxRecDepth 20000 in
theorem i181_11 : ex_ X d 181 11 [v0, v1, v2, v3, v4, v5, v6] [w0, w1] h Q = ex_ X d 181 14 [v0, v1, v2, v3, v4, v5, v6] [.long 9, w0, w1] h Q := R_ldc2 (show mx_at 181 11 = some (.ldc2_w 193, 3) by decide +kernel) ow181 kl120193
set_option maxRecDepth 20000 in
theorem i181_14 : ex_ X (d + 1) 181 14 [v0, v1, v2, v3, v4, v5, v6] [.long j2, .long j1, .long j0] h Q = ev_ X d 124 [.long j0, .long j1, .long j2] h (fun r h' => ex_ X (d + 1) 181 17 [v0, v1, v2, v3, v4, v5, v6] (r.toList ++ []) h' Q) := R_stat (show mx_at 181 14 = some (.invokestatic 54, 3) by decide +kernel) (mx_clk ow181 cc12_54) (Nat.le_of_ble_eq_true rfl) rfl rfl (Nat.le_of_ble_eq_true rfl) ml124 (Nat.le_of_ble_eq_true rfl)
set_option maxRecDepth 20000 in
theorem i181_17 : ex_ X d 181 17 [v0, v1, v2, v3, v4, v5, v6] [.int x] h Q = if ¬ x = 0 then ex_ X d 181 26 [v0, v1, v2, v3, v4, v5, v6] [] h Q else ex_ X d 181 20 [v0, v1, v2, v3, v4, v5, v6] [] h Q := (R_br (show mx_at 181 17 = some (.ifCond .ne 9, 3) by decide +kernel) rfl rfl).trans mx_ite
set_option maxRecDepth 20000 in
theorem i181_20 : ex_ X d 181 20 [.ref a, v1, v2, v3, v4, v5, v6] [] h Q = ex_ X d 181 21 [.ref a, v1, v2, v3, v4, v5, v6] [.ref a] h Q := ex_nx (show mx_at 181 20 = some (.aload_n 0, 1) by decide +kernel) rfl
set_option maxRecDepth 20000 in
theorem i181_21 : ex_ X d 181 21 [v0, v1, v2, v3, v4, v5, v6] [w0] h Q = ex_ X d 181 22 [v0, v1, v2, v3, v4, v5, v6] [.int 1, w0] h Q := R_iconst (show mx_at 181 21 = some (.iconst 1, 1) by decide +kernel) (by decide)
set_option maxRecDepth 20000 in
theorem i181_22 (hc : co_ h a = some 12) : ex_ X (d + 1) 181 22 [v0, v1, v2, v3, v4, v5, v6] [.int x0, .ref a] h Q = ev_ X d 123 [.ref a, .int x0] h (fun r h' => ex_ X (d + 1) 181 25 [v0, v1, v2, v3, v4, v5, v6] (r.toList ++ []) h' Q) := R_vir (show mx_at 181 22 = some (.invokevirtual 131, 3) by decide +kernel) (mx_clk ow181 cc12_131) (Nat.le_of_ble_eq_true rfl) rfl rfl hc rfl (Nat.le_of_ble_eq_true rfl) (Nat.le_of_ble_eq_true rfl) (by rw [ml123]; exact Nat.le_of_ble_eq_true rfl)
set_option maxRecDepth 20000 in
theorem i181_25 : ex_ X d 181 25 [v0, v1, v2, v3, v4, v5, v6] [.int x] h Q = Q (some (.int x)) h := ex_ret (show mx_at 181 25 = some (.ireturn, 1) by decide +kernel) (mx_retI rt181)
set_option maxRecDepth 20000 in
theorem i181_26 : ex_ X d 181 26 [v0, v1, v2, v3, v4, v5, v6] [] h Q = ex_ X d 181 27 [v0, v1, v2, v3, v4, v5, v6] [.int 0] h Q := R_iconst (show mx_at 181 26 = some (.iconst 0, 1) by decide +kernel) (by decide)
set_option maxRecDepth 20000 in
theorem i181_27 : ex_ X d 181 27 [v0, v1, v2, v3, v4, v5, v6] [.int x] h Q = (mx_nl v2 = true ∧ ex_ X d 181 28 [v0, v1, v2, .int x, v4, v5, v6] [] h Q) := mx_t1 (R_st (ok := mx_isI) (n := 3) (w := 1) (show mx_at 181 27 = some (.istore_n 3, 1) by decide +kernel) (fun _ _ => rfl) (Nat.le_of_ble_eq_true rfl)) rfl
set_option maxRecDepth 20000 in
theorem i181_28 : ex_ X d 181 28 [v0, v1, v2, v3, v4, v5, v6] [] h Q = ex_ X d 181 30 [v0, v1, v2, v3, v4, v5, v6] [.int (-100000000)] h Q := R_ldc (show mx_at 181 28 = some (.ldc 255, 2) by decide +kernel) (by decide) ow181 ki120255
set_option maxRecDepth 20000 in
theorem i181_30 : ex_ X d 181 30 [v0, v1, v2, v3, v4, v5, v6] [.int x] h Q = (mx_nl v3 = true ∧ ex_ X d 181 32 [v0, v1, v2, v3, .int x, v5, v6] [] h Q) := mx_t1 (R_st (ok := mx_isI) (n := 4) (w := 2) (show mx_at 181 30 = some (.istore 4, 2) by decide +kernel) (fun _ _ => rfl) (Nat.le_of_ble_eq_true rfl)) rfl
set_option maxRecDepth 20000 in
theorem i181_32 : ex_ X d 181 32 [v0, v1, v2, v3, v4, v5, v6] [] h Q = ex_ X d 181 33 [v0, v1, v2, v3, v4, v5, v6] [.int 0] h Q := R_iconst (show mx_at 181 32 = some (.iconst 0, 1) by decide +kernel) (by decide)
set_option maxRecDepth 20000 in
theorem i181_33 : ex_ X d 181 33 [v0, v1, v2, v3, v4, v5, v6] [.int x] h Q = (mx_nl v4 = true ∧ ex_ X d 181 35 [v0, v1, v2, v3, v4, .int x, v6] [] h Q) := mx_t1 (R_st (ok := mx_isI) (n := 5) (w := 2) (show mx_at 181 33 = some (.istore 5, 2) by decide +kernel) (fun _ _ => rfl) (Nat.le_of_ble_eq_true rfl)) rfl
set_option maxRecDepth 20000 in
theorem i181_35 : ex_ X d 181 35 [v0, v1, v2, v3, v4, .int x, v6] [] h Q = ex_ X d 181 37 [v0, v1, v2, v3, v4, .int x, v6] [.int x] h Q := ex_nx (show mx_at 181 35 = some (.iload 5, 2) by decide +kernel) rfl
set_option maxRecDepth 20000 in
theorem i181_37 : ex_ X d 181 37 [v0, v1, v2, v3, v4, v5, v6] [w0] h Q = ex_ X d 181 40 [v0, v1, v2, v3, v4, v5, v6] [.int 1000, w0] h Q := R_sipush (show mx_at 181 37 = some (.sipush 1000, 3) by decide +kernel) (by decide)
set_option maxRecDepth 20000 in
theorem i181_40 : ex_ X d 181 40 [v0, v1, v2, v3, v4, v5, v6] [.int y, .int x] h Q = if y ≤ x then ex_ X d 181 127 [v0, v1, v2, v3, v4, v5, v6] [] h Q else ex_ X d 181 43 [v0, v1, v2, v3, v4, v5, v6] [] h Q := (R_br (show mx_at 181 40 = some (.if_icmp .ge 87, 3) by decide +kernel) rfl rfl).trans mx_ite
set_option maxRecDepth 20000 in
theorem i181_43 : ex_ X d 181 43 [.ref a, v1, v2, v3, v4, v5, v6] [] h Q = ex_ X d 181 44 [.ref a, v1, v2, v3, v4, v5, v6] [.ref a] h Q := ex_nx (show mx_at 181 43 = some (.aload_n 0, 1) by decide +kernel) rfl
set_option maxRecDepth 20000 in
theorem i181_44 : ex_ X d 181 44 [v0, v1, v2, v3, v4, v5, v6] [.ref a] h Q = (gk_ h a 0 [(12, 0)] = true ∧ ex_ X d 181 47 [v0, v1, v2, v3, v4, v5, v6] [gv_ h a 0] h Q) := R_getf (show mx_at 181 44 = some (.getfield 7, 3) by decide +kernel) (mx_fdo ow181 fd120007)
set_option maxRecDepth 20000 in
theorem i181_47 : ex_ X d 181 47 [.ref a, v1, v2, v3, v4, v5, v6] [w0] h Q = ex_ X d 181 48 [.ref a, v1, v2, v3, v4, v5, v6] [.ref a, w0] h Q := ex_nx (show mx_at 181 47 = some (.aload_n 0, 1) by decide +kernel) rfl
set_option maxRecDepth 20000 in
theorem i181_48 : ex_ X d 181 48 [v0, v1, v2, v3, v4, v5, v6] [.ref a, w0] h Q = (gk_ h a 1 [(12, 0)] = true ∧ ex_ X d 181 51 [v0, v1, v2, v3, v4, v5, v6] [gv_ h a 1, w0] h Q) := R_getf (show mx_at 181 48 = some (.getfield 13, 3) by decide +kernel) (mx_fdo ow181 fd120013)
set_option maxRecDepth 20000 in
theorem i181_51 : ex_ X (d + 1) 181 51 [v0, v1, v2, v3, v4, v5, v6] [.ref a1, .ref a0] h Q = ev_ X d 126 [.ref a0, .ref a1] h (fun r h' => ex_ X (d + 1) 181 54 [v0, v1, v2, v3, v4, v5, v6] (r.toList ++ []) h' Q) := R_stat (show mx_at 181 51 = some (.invokestatic 242, 3) by decide +kernel) (mx_clk ow181 cc12_242) (Nat.le_of_ble_eq_true rfl) rfl rfl (Nat.le_of_ble_eq_true rfl) ml126 (Nat.le_of_ble_eq_true rfl)
set_option maxRecDepth 20000 in
theorem i181_54 : ex_ X d 181 54 [.ref a, v1, v2, v3, v4, v5, v6] [] h Q = ex_ X d 181 55 [.ref a, v1, v2, v3, v4, v5, v6] [.ref a] h Q := ex_nx (show mx_at 181 54 = some (.aload_n 0, 1) by decide +kernel) rfl
set_option maxRecDepth 20000 in
theorem i181_55 : ex_ X d 181 55 [v0, v1, v2, v3, v4, v5, v6] [.ref a] h Q = (gk_ h a 1 [(12, 0)] = true ∧ ex_ X d 181 58 [v0, v1, v2, v3, v4, v5, v6] [gv_ h a 1] h Q) := R_getf (show mx_at 181 55 = some (.getfield 13, 3) by decide +kernel) (mx_fdo ow181 fd120013)
set_option maxRecDepth 20000 in
theorem i181_58 : ex_ X d 181 58 [v0, v1, v2, v3, v4, v5, v6] [w0] h Q = ex_ X d 181 60 [v0, v1, v2, v3, v4, v5, v6] [.int 20, w0] h Q := R_bipush (show mx_at 181 58 = some (.bipush 20, 2) by decide +kernel) (by decide)
set_option maxRecDepth 20000 in
theorem i181_60 : ex_ X d 181 60 [v0, v1, v2, v3, v4, v5, v6] [w0, w1] h Q = ex_ X d 181 62 [v0, v1, v2, v3, v4, v5, v6] [.int 8, w0, w1] h Q := R_bipush (show mx_at 181 60 = some (.bipush 8, 2) by decide +kernel) (by decide)
set_option maxRecDepth 20000 in
theorem i181_62 : ex_ X d 181 62 [v0, .int x, v2, v3, v4, v5, v6] [w0, w1, w2] h Q = ex_ X d 181 63 [v0, .int x, v2, v3, v4, v5, v6] [.int x, w0, w1, w2] h Q := ex_nx (show mx_at 181 62 = some (.iload_n 1, 1) by decide +kernel) rfl
set_option maxRecDepth 20000 in
theorem i181_63 : ex_ X d 181 63 [v0, v1, v2, v3, v4, v5, v6] [.int y, .int x, w0, w1] h Q = ex_ X d 181 64 [v0, v1, v2, v3, v4, v5, v6] [.int (x * y), w0, w1] h Q := ex_nx (show mx_at 181 63 = some (.imul, 1) by decide +kernel) rfl
set_option maxRecDepth 20000 in
theorem i181_64 : ex_ X d 181 64 [v0, v1, v2, v3, v4, v5, v6] [.int y, .int x, w0] h Q = ex_ X d 181 65 [v0, v1, v2, v3, v4, v5, v6] [.int (x + y), w0] h Q := ex_nx (show mx_at 181 64 = some (.iadd, 1) by decide +kernel) rfl
set_option maxRecDepth 20000 in
theorem i181_65 : ex_ X d 181 65 [v0, v1, v2, v3, v4, v5, v6] [w0, w1] h Q = ex_ X d 181 67 [v0, v1, v2, v3, v4, v5, v6] [.int 6, w0, w1] h Q := R_bipush (show mx_at 181 65 = some (.bipush 6, 2) by decide +kernel) (by decide)
set_option maxRecDepth 20000 in
theorem i181_67 : ex_ X d 181 67 [v0, v1, v2, v3, v4, v5, v6] [.int y, .int x, w0] h Q = ex_ X d 181 68 [v0, v1, v2, v3, v4, v5, v6] [.int (x + y), w0] h Q := ex_nx (show mx_at 181 67 = some (.iadd, 1) by decide +kernel) rfl
set_option maxRecDepth 20000 in
theorem i181_68 : ex_ X d 181 68 [v0, v1, v2, v3, v4, .int x, v6] [w0, w1] h Q = ex_ X d 181 70 [v0, v1, v2, v3, v4, .int x, v6] [.int x, w0, w1] h Q := ex_nx (show mx_at 181 68 = some (.iload 5, 2) by decide +kernel) rfl
set_option maxRecDepth 20000 in
theorem i181_70 : ex_ X d 181 70 [v0, v1, v2, v3, v4, v5, v6] [.int x, .int i, .ref a] h Q = (ik_ h a i = true ∧ ex_ X d 181 71 [v0, v1, v2, v3, v4, v5, v6] [] (is_ h a i x) Q) := R_iast (show mx_at 181 70 = some (.iastore, 1) by decide +kernel)
set_option maxRecDepth 20000 in
theorem i181_71 : ex_ X d 181 71 [.ref a, v1, v2, v3, v4, v5, v6] [] h Q = ex_ X d 181 72 [.ref a, v1, v2, v3, v4, v5, v6] [.ref a] h Q := ex_nx (show mx_at 181 71 = some (.aload_n 0, 1) by decide +kernel) rfl
set_option maxRecDepth 20000 in
theorem i181_72 : ex_ X d 181 72 [.ref a, v1, v2, v3, v4, v5, v6] [w0] h Q = ex_ X d 181 73 [.ref a, v1, v2, v3, v4, v5, v6] [.ref a, w0] h Q := ex_nx (show mx_at 181 72 = some (.aload_n 0, 1) by decide +kernel) rfl
set_option maxRecDepth 20000 in
theorem i181_73 : ex_ X d 181 73 [v0, v1, v2, v3, v4, v5, v6] [.ref a, w0] h Q = (gk_ h a 1 [(12, 0)] = true ∧ ex_ X d 181 76 [v0, v1, v2, v3, v4, v5, v6] [gv_ h a 1, w0] h Q) := R_getf (show mx_at 181 73 = some (.getfield 13, 3) by decide +kernel) (mx_fdo ow181 fd120013)
set_option maxRecDepth 20000 in
theorem i181_76 : ex_ X d 181 76 [v0, v1, .int x, v3, v4, v5, v6] [w0, w1] h Q = ex_ X d 181 77 [v0, v1, .int x, v3, v4, v5, v6] [.int x, w0, w1] h Q := ex_nx (show mx_at 181 76 = some (.iload_n 2, 1) by decide +kernel) rfl
set_option maxRecDepth 20000 in
theorem i181_77 (hc : co_ h a = some 12) : ex_ X (d + 1) 181 77 [v0, v1, v2, v3, v4, v5, v6] [.int x1, .ref a0, .ref a] h Q = ev_ X d 171 [.ref a, .ref a0, .int x1] h (fun r h' => ex_ X (d + 1) 181 80 [v0, v1, v2, v3, v4, v5, v6] (r.toList ++ []) h' Q) := R_vir (show mx_at 181 77 = some (.invokevirtual 238, 3) by decide +kernel) (mx_clk ow181 cc12_238) (Nat.le_of_ble_eq_true rfl) rfl rfl hc rfl (Nat.le_of_ble_eq_true rfl) (Nat.le_of_ble_eq_true rfl) (by rw [ml171]; exact Nat.le_of_ble_eq_true rfl)
set_option maxRecDepth 20000 in
theorem i181_80 : ex_ X d 181 80 [.ref a, v1, v2, v3, v4, v5, v6] [] h Q = ex_ X d 181 81 [.ref a, v1, v2, v3, v4, v5, v6] [.ref a] h Q := ex_nx (show mx_at 181 80 = some (.aload_n 0, 1) by decide +kernel) rfl
set_option maxRecDepth 20000 in
theorem i181_81 : ex_ X d 181 81 [v0, v1, v2, v3, v4, v5, v6] [.ref a] h Q = (gk_ h a 1 [(12, 0)] = true ∧ ex_ X d 181 84 [v0, v1, v2, v3, v4, v5, v6] [gv_ h a 1] h Q) := R_getf (show mx_at 181 81 = some (.getfield 13, 3) by decide +kernel) (mx_fdo ow181 fd120013)
set_option maxRecDepth 20000 in
theorem i181_84 : ex_ X d 181 84 [v0, .int x, v2, v3, v4, v5, v6] [w0] h Q = ex_ X d 181 85 [v0, .int x, v2, v3, v4, v5, v6] [.int x, w0] h Q := ex_nx (show mx_at 181 84 = some (.iload_n 1, 1) by decide +kernel) rfl
set_option maxRecDepth 20000 in
theorem i181_85 : ex_ X d 181 85 [v0, v1, v2, v3, v4, v5, v6] [w0, w1] h Q = ex_ X d 181 86 [v0, v1, v2, v3, v4, v5, v6] [.int 5, w0, w1] h Q := R_iconst (show mx_at 181 85 = some (.iconst 5, 1) by decide +kernel) (by decide)
set_option maxRecDepth 20000 in
theorem i181_86 : ex_ X (d + 1) 181 86 [v0, v1, v2, v3, v4, v5, v6] [.int x2, .int x1, .ref a0] h Q = ev_ X d 129 [.ref a0, .int x1, .int x2] h (fun r h' => ex_ X (d + 1) 181 89 [v0, v1, v2, v3, v4, v5, v6] (r.toList ++ []) h' Q) := R_stat (show mx_at 181 86 = some (.invokestatic 154, 3) by decide +kernel) (mx_clk ow181 cc12_154) (Nat.le_of_ble_eq_true rfl) rfl rfl (Nat.le_of_ble_eq_true rfl) ml129 (Nat.le_of_ble_eq_true rfl)
set_option maxRecDepth 20000 in
theorem i181_89 : ex_ X d 181 89 [v0, v1, v2, v3, v4, v5, v6] [.int x] h Q = (mx_nl v5 = true ∧ ex_ X d 181 91 [v0, v1, v2, v3, v4, v5, .int x] [] h Q) := mx_t1 (R_st (ok := mx_isI) (n := 6) (w := 2) (show mx_at 181 89 = some (.istore 6, 2) by decide +kernel) (fun _ _ => rfl) (Nat.le_of_ble_eq_true rfl)) rfl
set_option maxRecDepth 20000 in
theorem i181_91 : ex_ X d 181 91 [v0, v1, v2, v3, v4, v5, .int x] [] h Q = ex_ X d 181 93 [v0, v1, v2, v3, v4, v5, .int x] [.int x] h Q := ex_nx (show mx_at 181 91 = some (.iload 6, 2) by decide +kernel) rfl
set_option maxRecDepth 20000 in
theorem i181_93 : ex_ X d 181 93 [v0, v1, v2, v3, .int x, v5, v6] [w0] h Q = ex_ X d 181 95 [v0, v1, v2, v3, .int x, v5, v6] [.int x, w0] h Q := ex_nx (show mx_at 181 93 = some (.iload 4, 2) by decide +kernel) rfl
set_option maxRecDepth 20000 in
theorem i181_95 : ex_ X d 181 95 [v0, v1, v2, v3, v4, v5, v6] [.int y, .int x] h Q = if x ≤ y then ex_ X d 181 103 [v0, v1, v2, v3, v4, v5, v6] [] h Q else ex_ X d 181 98 [v0, v1, v2, v3, v4, v5, v6] [] h Q := (R_br (show mx_at 181 95 = some (.if_icmp .le 8, 3) by decide +kernel) rfl rfl).trans mx_ite
set_option maxRecDepth 20000 in
theorem i181_98 : ex_ X d 181 98 [v0, v1, v2, v3, v4, .int x, v6] [] h Q = ex_ X d 181 100 [v0, v1, v2, v3, v4, .int x, v6] [.int x] h Q := ex_nx (show mx_at 181 98 = some (.iload 5, 2) by decide +kernel) rfl
set_option maxRecDepth 20000 in
theorem i181_100 : ex_ X d 181 100 [v0, v1, v2, v3, v4, v5, v6] [w0] h Q = ex_ X d 181 104 [v0, v1, v2, v3, v4, v5, v6] [w0] h Q := R_to (show mx_at 181 100 = some (.goto 4, 3) by decide +kernel) rfl rfl
set_option maxRecDepth 20000 in
theorem i181_103 : ex_ X d 181 103 [v0, v1, v2, .int x, v4, v5, v6] [] h Q = ex_ X d 181 104 [v0, v1, v2, .int x, v4, v5, v6] [.int x] h Q := ex_nx (show mx_at 181 103 = some (.iload_n 3, 1) by decide +kernel) rfl
set_option maxRecDepth 20000 in
theorem i181_104 : ex_ X d 181 104 [v0, v1, v2, v3, v4, v5, v6] [.int x] h Q = (mx_nl v2 = true ∧ ex_ X d 181 105 [v0, v1, v2, .int x, v4, v5, v6] [] h Q) := mx_t1 (R_st (ok := mx_isI) (n := 3) (w := 1) (show mx_at 181 104 = some (.istore_n 3, 1) by decide +kernel) (fun _ _ => rfl) (Nat.le_of_ble_eq_true rfl)) rfl
set_option maxRecDepth 20000 in
theorem i181_105 : ex_ X d 181 105 [v0, v1, v2, v3, v4, v5, .int x] [] h Q = ex_ X d 181 107 [v0, v1, v2, v3, v4, v5, .int x] [.int x] h Q := ex_nx (show mx_at 181 105 = some (.iload 6, 2) by decide +kernel) rfl
set_option maxRecDepth 20000 in
theorem i181_107 : ex_ X d 181 107 [v0, v1, v2, v3, .int x, v5, v6] [w0] h Q = ex_ X d 181 109 [v0, v1, v2, v3, .int x, v5, v6] [.int x, w0] h Q := ex_nx (show mx_at 181 107 = some (.iload 4, 2) by decide +kernel) rfl
set_option maxRecDepth 20000 in
theorem i181_109 : ex_ X d 181 109 [v0, v1, v2, v3, v4, v5, v6] [.int y, .int x] h Q = if x ≤ y then ex_ X d 181 117 [v0, v1, v2, v3, v4, v5, v6] [] h Q else ex_ X d 181 112 [v0, v1, v2, v3, v4, v5, v6] [] h Q := (R_br (show mx_at 181 109 = some (.if_icmp .le 8, 3) by decide +kernel) rfl rfl).trans mx_ite
set_option maxRecDepth 20000 in
theorem i181_112 : ex_ X d 181 112 [v0, v1, v2, v3, v4, v5, .int x] [] h Q = ex_ X d 181 114 [v0, v1, v2, v3, v4, v5, .int x] [.int x] h Q := ex_nx (show mx_at 181 112 = some (.iload 6, 2) by decide +kernel) rfl
set_option maxRecDepth 20000 in
theorem i181_114 : ex_ X d 181 114 [v0, v1, v2, v3, v4, v5, v6] [w0] h Q = ex_ X d 181 119 [v0, v1, v2, v3, v4, v5, v6] [w0] h Q := R_to (show mx_at 181 114 = some (.goto 5, 3) by decide +kernel) rfl rfl
set_option maxRecDepth 20000 in
theorem i181_117 : ex_ X d 181 117 [v0, v1, v2, v3, .int x, v5, v6] [] h Q = ex_ X d 181 119 [v0, v1, v2, v3, .int x, v5, v6] [.int x] h Q := ex_nx (show mx_at 181 117 = some (.iload 4, 2) by decide +kernel) rfl
set_option maxRecDepth 20000 in
theorem i181_119 : ex_ X d 181 119 [v0, v1, v2, v3, v4, v5, v6] [.int x] h Q = (mx_nl v3 = true ∧ ex_ X d 181 121 [v0, v1, v2, v3, .int x, v5, v6] [] h Q) := mx_t1 (R_st (ok := mx_isI) (n := 4) (w := 2) (show mx_at 181 119 = some (.istore 4, 2) by decide +kernel) (fun _ _ => rfl) (Nat.le_of_ble_eq_true rfl)) rfl
set_option maxRecDepth 20000 in
theorem i181_121 : ex_ X d 181 121 [v0, v1, v2, v3, v4, .int x, v6] [] h Q = (mx_nl v4 = true ∧ ex_ X d 181 124 [v0, v1, v2, v3, v4, .int (x + 10), v6] [] h Q) := R_iinc (n := 5) (c := 10) (show mx_at 181 121 = some (.iinc 5 10, 3) by decide +kernel) rfl
set_option maxRecDepth 20000 in
theorem i181_124 : ex_ X d 181 124 [v0, v1, v2, v3, v4, v5, v6] [] h Q = ex_ X d 181 35 [v0, v1, v2, v3, v4, v5, v6] [] h Q := R_to (show mx_at 181 124 = some (.goto (-89), 3) by decide +kernel) rfl rfl
set_option maxRecDepth 20000 in
theorem i181_127 : ex_ X d 181 127 [v0, v1, v2, .int x, v4, v5, v6] [] h Q = ex_ X d 181 128 [v0, v1, v2, .int x, v4, v5, v6] [.int x] h Q := ex_nx (show mx_at 181 127 = some (.iload_n 3, 1) by decide +kernel) rfl
set_option maxRecDepth 20000 in
theorem i181_128 : ex_ X d 181 128 [v0, v1, v2, v3, v4, v5, v6] [.int x] h Q = Q (some (.int x)) h := ex_ret (show mx_at 181 128 = some (.ireturn, 1) by decide +kernel) (mx_retI rt181)
theorem i181_e : ev_ X d 181 [.ref a, .int x0, .int x1] h Q = ex_ X d 181 0 [.ref a, .int x0, .int x1, .double 0, .double 0, .double 0, .double 0] [] h Q := by rw [ev_, ml181]; rfl
-- 182 X12_right
set_option maxRecDepth 20000 in
theorem i182_0 : ex_ X d 182 0 [.ref a, v1, v2, v3] [] h Q = ex_ X d 182 1 [.ref a, v1, v2, v3] [.ref a] h Q := ex_nx (show mx_at 182 0 = some (.aload_n 0, 1) by decide +kernel) rfl
set_option maxRecDepth 20000 in
theorem i182_1 : ex_ X d 182 1 [v0, .int x, v2, v3] [w0] h Q = ex_ X d 182 2 [v0, .int x, v2, v3] [.int x, w0] h Q := ex_nx (show mx_at 182 1 = some (.iload_n 1, 1) by decide +kernel) rfl
set_option maxRecDepth 20000 in
theorem i182_2 (hc : co_ h a = some 12) : ex_ X (d + 1) 182 2 [v0, v1, v2, v3] [.int x0, .ref a] h Q = ev_ X d 127 [.ref a, .int x0] h (fun r h' => ex_ X (d + 1) 182 5 [v0, v1, v2, v3] (r.toList ++ []) h' Q) := R_vir (show mx_at 182 2 = some (.invokevirtual 173, 3) by decide +kernel) (mx_clk ow182 cc12_173) (Nat.le_of_ble_eq_true rfl) rfl rfl hc rfl (Nat.le_of_ble_eq_true rfl) (Nat.le_of_ble_eq_true rfl) (by rw [ml127]; exact Nat.le_of_ble_eq_true rfl)
set_option maxRecDepth 20000 in
theorem i182_5 : ex_ X d 182 5 [v0, v1, v2, v3] [.int x] h Q = if x = 0 then ex_ X d 182 15 [v0, v1, v2, v3] [] h Q else ex_ X d 182 8 [v0, v1, v2, v3] [] h Q := (R_br (show mx_at 182 5 = some (.ifCond .eq 10, 3) by decide +kernel) rfl rfl).trans mx_ite
set_option maxRecDepth 20000 in
theorem i182_8 : ex_ X d 182 8 [v0, v1, .int x, v3] [] h Q = ex_ X d 182 9 [v0, v1, .int x, v3] [.int x] h Q := ex_nx (show mx_at 182 8 = some (.iload_n 2, 1) by decide +kernel) rfl
set_option maxRecDepth 20000 in
theorem i182_9 : ex_ X (d + 1) 182 9 [v0, v1, v2, v3] [.int x0] h Q = ev_ X d 174 [.int x0] h (fun r h' => ex_ X (d + 1) 182 12 [v0, v1, v2, v3] (r.toList ++ []) h' Q) := R_stat (show mx_at 182 9 = some (.invokestatic 246, 3) by decide +kernel) (mx_clk ow182 cc12_246) (Nat.le_of_ble_eq_true rfl) rfl rfl (Nat.le_of_ble_eq_true rfl) ml174 (Nat.le_of_ble_eq_true rfl)
set_option maxRecDepth 20000 in
theorem i182_12 : ex_ X d 182 12 [v0, v1, v2, v3] [.int x] h Q = if ¬ x = 0 then ex_ X d 182 21 [v0, v1, v2, v3] [] h Q else ex_ X d 182 15 [v0, v1, v2, v3] [] h Q := (R_br (show mx_at 182 12 = some (.ifCond .ne 9, 3) by decide +kernel) rfl rfl).trans mx_ite
set_option maxRecDepth 20000 in
theorem i182_15 : ex_ X d 182 15 [.ref a, v1, v2, v3] [] h Q = ex_ X d 182 16 [.ref a, v1, v2, v3] [.ref a] h Q := ex_nx (show mx_at 182 15 = some (.aload_n 0, 1) by decide +kernel) rfl
set_option maxRecDepth 20000 in
theorem i182_16 : ex_ X d 182 16 [v0, v1, v2, v3] [w0] h Q = ex_ X d 182 17 [v0, v1, v2, v3] [.int 1, w0] h Q := R_iconst (show mx_at 182 16 = some (.iconst 1, 1) by decide +kernel) (by decide)
set_option maxRecDepth 20000 in
theorem i182_17 (hc : co_ h a = some 12) : ex_ X (d + 1) 182 17 [v0, v1, v2, v3] [.int x0, .ref a] h Q = ev_ X d 123 [.ref a, .int x0] h (fun r h' => ex_ X (d + 1) 182 20 [v0, v1, v2, v3] (r.toList ++ []) h' Q) := R_vir (show mx_at 182 17 = some (.invokevirtual 131, 3) by decide +kernel) (mx_clk ow182 cc12_131) (Nat.le_of_ble_eq_true rfl) rfl rfl hc rfl (Nat.le_of_ble_eq_true rfl) (Nat.le_of_ble_eq_true rfl) (by rw [ml123]; exact Nat.le_of_ble_eq_true rfl)
set_option maxRecDepth 20000 in
theorem i182_20 : ex_ X d 182 20 [v0, v1, v2, v3] [.int x] h Q = Q (some (.int x)) h := ex_ret (show mx_at 182 20 = some (.ireturn, 1) by decide +kernel) (mx_retI rt182)
set_option maxRecDepth 20000 in
theorem i182_21 : ex_ X d 182 21 [.ref a, v1, v2, v3] [] h Q = ex_ X d 182 22 [.ref a, v1, v2, v3] [.ref a] h Q := ex_nx (show mx_at 182 21 = some (.aload_n 0, 1) by decide +kernel) rfl
set_option maxRecDepth 20000 in
theorem i182_22 : ex_ X d 182 22 [v0, v1, .int x, v3] [w0] h Q = ex_ X d 182 23 [v0, v1, .int x, v3] [.int x, w0] h Q := ex_nx (show mx_at 182 22 = some (.iload_n 2, 1) by decide +kernel) rfl
set_option maxRecDepth 20000 in
theorem i182_23 (hc : co_ h a = some 12) : ex_ X (d + 1) 182 23 [v0, v1, v2, v3] [.int x0, .ref a] h Q = ev_ X d 175 [.ref a, .int x0] h (fun r h' => ex_ X (d + 1) 182 26 [v0, v1, v2, v3] (r.toList ++ []) h' Q) := R_vir (show mx_at 182 23 = some (.invokevirtual 249, 3) by decide +kernel) (mx_clk ow182 cc12_249) (Nat.le_of_ble_eq_true rfl) rfl rfl hc rfl (Nat.le_of_ble_eq_true rfl) (Nat.le_of_ble_eq_true rfl) (by rw [ml175]; exact Nat.le_of_ble_eq_true rfl)
set_option maxRecDepth 20000 in
theorem i182_26 : ex_ X d 182 26 [.ref a, v1, v2, v3] [] h Q = ex_ X d 182 27 [.ref a, v1, v2, v3] [.ref a] h Q := ex_nx (show mx_at 182 26 = some (.aload_n 0, 1) by decide +kernel) rfl
set_option maxRecDepth 20000 in
theorem i182_27 : ex_ X d 182 27 [v0, v1, v2, v3] [.ref a] h Q = (gk_ h a 1 [(12, 0)] = true ∧ ex_ X d 182 30 [v0, v1, v2, v3] [gv_ h a 1] h Q) := R_getf (show mx_at 182 27 = some (.getfield 13, 3) by decide +kernel) (mx_fdo ow182 fd120013)
set_option maxRecDepth 20000 in
theorem i182_30 : ex_ X d 182 30 [v0, .int x, v2, v3] [w0] h Q = ex_ X d 182 31 [v0, .int x, v2, v3] [.int x, w0] h Q := ex_nx (show mx_at 182 30 = some (.iload_n 1, 1) by decide +kernel) rfl
set_option maxRecDepth 20000 in
theorem i182_31 : ex_ X d 182 31 [v0, v1, v2, v3] [w0, w1] h Q = ex_ X d 182 32 [v0, v1, v2, v3] [.int 5, w0, w1] h Q := R_iconst (show mx_at 182 31 = some (.iconst 5, 1) by decide +kernel) (by decide)
set_option maxRecDepth 20000 in
theorem i182_32 : ex_ X (d + 1) 182 32 [v0, v1, v2, v3] [.int x2, .int x1, .ref a0] h Q = ev_ X d 129 [.ref a0, .int x1, .int x2] h (fun r h' => ex_ X (d + 1) 182 35 [v0, v1, v2, v3] (r.toList ++ []) h' Q) := R_stat (show mx_at 182 32 = some (.invokestatic 154, 3) by decide +kernel) (mx_clk ow182 cc12_154) (Nat.le_of_ble_eq_true rfl) rfl rfl (Nat.le_of_ble_eq_true rfl) ml129 (Nat.le_of_ble_eq_true rfl)
set_option maxRecDepth 20000 in
theorem i182_35 : ex_ X d 182 35 [v0, v1, v2, v3] [.int x] h Q = (mx_nl v2 = true ∧ ex_ X d 182 36 [v0, v1, v2, .int x] [] h Q) := mx_t1 (R_st (ok := mx_isI) (n := 3) (w := 1) (show mx_at 182 35 = some (.istore_n 3, 1) by decide +kernel) (fun _ _ => rfl) (Nat.le_of_ble_eq_true rfl)) rfl
set_option maxRecDepth 20000 in
theorem i182_36 : ex_ X d 182 36 [.ref a, v1, v2, v3] [] h Q = ex_ X d 182 37 [.ref a, v1, v2, v3] [.ref a] h Q := ex_nx (show mx_at 182 36 = some (.aload_n 0, 1) by decide +kernel) rfl
set_option maxRecDepth 20000 in
theorem i182_37 : ex_ X d 182 37 [v0, v1, v2, v3] [.ref a] h Q = (gk_ h a 0 [(12, 0)] = true ∧ ex_ X d 182 40 [v0, v1, v2, v3] [gv_ h a 0] h Q) := R_getf (show mx_at 182 37 = some (.getfield 7, 3) by decide +kernel) (mx_fdo ow182 fd120007)
set_option maxRecDepth 20000 in
theorem i182_40 : ex_ X d 182 40 [.ref a, v1, v2, v3] [w0] h Q = ex_ X d 182 41 [.ref a, v1, v2, v3] [.ref a, w0] h Q := ex_nx (show mx_at 182 40 = some (.aload_n 0, 1) by decide +kernel) rfl
set_option maxRecDepth 20000 in
theorem i182_41 : ex_ X d 182 41 [v0, v1, v2, v3] [.ref a, w0] h Q = (gk_ h a 1 [(12, 0)] = true ∧ ex_ X d 182 44 [v0, v1, v2, v3] [gv_ h a 1, w0] h Q) := R_getf (show mx_at 182 41 = some (.getfield 13, 3) by decide +kernel) (mx_fdo ow182 fd120013)
set_option maxRecDepth 20000 in
theorem i182_44 : ex_ X (d + 1) 182 44 [v0, v1, v2, v3] [.ref a1, .ref a0] h Q = ev_ X d 126 [.ref a0, .ref a1] h (fun r h' => ex_ X (d + 1) 182 47 [v0, v1, v2, v3] (r.toList ++ []) h' Q) := R_stat (show mx_at 182 44 = some (.invokestatic 242, 3) by decide +kernel) (mx_clk ow182 cc12_242) (Nat.le_of_ble_eq_true rfl) rfl rfl (Nat.le_of_ble_eq_true rfl) ml126 (Nat.le_of_ble_eq_true rfl)
set_option maxRecDepth 20000 in
theorem i182_47 : ex_ X d 182 47 [.ref a, v1, v2, v3] [] h Q = ex_ X d 182 48 [.ref a, v1, v2, v3] [.ref a] h Q := ex_nx (show mx_at 182 47 = some (.aload_n 0, 1) by decide +kernel) rfl
set_option maxRecDepth 20000 in
theorem i182_48 : ex_ X d 182 48 [v0, v1, v2, v3] [.ref a] h Q = (gk_ h a 1 [(12, 0)] = true ∧ ex_ X d 182 51 [v0, v1, v2, v3] [gv_ h a 1] h Q) := R_getf (show mx_at 182 48 = some (.getfield 13, 3) by decide +kernel) (mx_fdo ow182 fd120013)
set_option maxRecDepth 20000 in
theorem i182_51 : ex_ X d 182 51 [v0, v1, v2, v3] [w0] h Q = ex_ X d 182 53 [v0, v1, v2, v3] [.int 20, w0] h Q := R_bipush (show mx_at 182 51 = some (.bipush 20, 2) by decide +kernel) (by decide)
set_option maxRecDepth 20000 in
theorem i182_53 : ex_ X d 182 53 [v0, v1, v2, v3] [w0, w1] h Q = ex_ X d 182 55 [v0, v1, v2, v3] [.int 8, w0, w1] h Q := R_bipush (show mx_at 182 53 = some (.bipush 8, 2) by decide +kernel) (by decide)
set_option maxRecDepth 20000 in
theorem i182_55 : ex_ X d 182 55 [v0, .int x, v2, v3] [w0, w1, w2] h Q = ex_ X d 182 56 [v0, .int x, v2, v3] [.int x, w0, w1, w2] h Q := ex_nx (show mx_at 182 55 = some (.iload_n 1, 1) by decide +kernel) rfl
set_option maxRecDepth 20000 in
theorem i182_56 : ex_ X d 182 56 [v0, v1, v2, v3] [.int y, .int x, w0, w1] h Q = ex_ X d 182 57 [v0, v1, v2, v3] [.int (x * y), w0, w1] h Q := ex_nx (show mx_at 182 56 = some (.imul, 1) by decide +kernel) rfl
set_option maxRecDepth 20000 in
theorem i182_57 : ex_ X d 182 57 [v0, v1, v2, v3] [.int y, .int x, w0] h Q = ex_ X d 182 58 [v0, v1, v2, v3] [.int (x + y), w0] h Q := ex_nx (show mx_at 182 57 = some (.iadd, 1) by decide +kernel) rfl
set_option maxRecDepth 20000 in
theorem i182_58 : ex_ X d 182 58 [v0, v1, v2, v3] [w0, w1] h Q = ex_ X d 182 60 [v0, v1, v2, v3] [.int 6, w0, w1] h Q := R_bipush (show mx_at 182 58 = some (.bipush 6, 2) by decide +kernel) (by decide)
set_option maxRecDepth 20000 in
theorem i182_60 : ex_ X d 182 60 [v0, v1, v2, v3] [.int y, .int x, w0] h Q = ex_ X d 182 61 [v0, v1, v2, v3] [.int (x + y), w0] h Q := ex_nx (show mx_at 182 60 = some (.iadd, 1) by decide +kernel) rfl
set_option maxRecDepth 20000 in
theorem i182_61 : ex_ X d 182 61 [v0, v1, v2, v3] [w0, w1] h Q = ex_ X d 182 62 [v0, v1, v2, v3] [.int (-1), w0, w1] h Q := R_iconst (show mx_at 182 61 = some (.iconst (-1), 1) by decide +kernel) (by decide)
set_option maxRecDepth 20000 in
theorem i182_62 : ex_ X d 182 62 [v0, v1, v2, v3] [.int x, .int i, .ref a] h Q = (ik_ h a i = true ∧ ex_ X d 182 63 [v0, v1, v2, v3] [] (is_ h a i x) Q) := R_iast (show mx_at 182 62 = some (.iastore, 1) by decide +kernel)
set_option maxRecDepth 20000 in
theorem i182_63 : ex_ X d 182 63 [.ref a, v1, v2, v3] [] h Q = ex_ X d 182 64 [.ref a, v1, v2, v3] [.ref a] h Q := ex_nx (show mx_at 182 63 = some (.aload_n 0, 1) by decide +kernel) rfl
set_option maxRecDepth 20000 in
theorem i182_64 : ex_ X d 182 64 [.ref a, v1, v2, v3] [w0] h Q = ex_ X d 182 65 [.ref a, v1, v2, v3] [.ref a, w0] h Q := ex_nx (show mx_at 182 64 = some (.aload_n 0, 1) by decide +kernel) rfl
set_option maxRecDepth 20000 in
theorem i182_65 : ex_ X d 182 65 [v0, v1, v2, v3] [.ref a, w0] h Q = (gk_ h a 1 [(12, 0)] = true ∧ ex_ X d 182 68 [v0, v1, v2, v3] [gv_ h a 1, w0] h Q) := R_getf (show mx_at 182 65 = some (.getfield 13, 3) by decide +kernel) (mx_fdo ow182 fd120013)
set_option maxRecDepth 20000 in
theorem i182_68 : ex_ X d 182 68 [v0, v1, .int x, v3] [w0, w1] h Q = ex_ X d 182 69 [v0, v1, .int x, v3] [.int x, w0, w1] h Q := ex_nx (show mx_at 182 68 = some (.iload_n 2, 1) by decide +kernel) rfl
set_option maxRecDepth 20000 in
theorem i182_69 (hc : co_ h a = some 12) : ex_ X (d + 1) 182 69 [v0, v1, v2, v3] [.int x1, .ref a0, .ref a] h Q = ev_ X d 171 [.ref a, .ref a0, .int x1] h (fun r h' => ex_ X (d + 1) 182 72 [v0, v1, v2, v3] (r.toList ++ []) h' Q) := R_vir (show mx_at 182 69 = some (.invokevirtual 238, 3) by decide +kernel) (mx_clk ow182 cc12_238) (Nat.le_of_ble_eq_true rfl) rfl rfl hc rfl (Nat.le_of_ble_eq_true rfl) (Nat.le_of_ble_eq_true rfl) (by rw [ml171]; exact Nat.le_of_ble_eq_true rfl)
set_option maxRecDepth 20000 in
theorem i182_72 : ex_ X d 182 72 [.ref a, v1, v2, v3] [] h Q = ex_ X d 182 73 [.ref a, v1, v2, v3] [.ref a] h Q := ex_nx (show mx_at 182 72 = some (.aload_n 0, 1) by decide +kernel) rfl
set_option maxRecDepth 20000 in
theorem i182_73 : ex_ X d 182 73 [v0, v1, v2, v3] [.ref a] h Q = (gk_ h a 1 [(12, 0)] = true ∧ ex_ X d 182 76 [v0, v1, v2, v3] [gv_ h a 1] h Q) := R_getf (show mx_at 182 73 = some (.getfield 13, 3) by decide +kernel) (mx_fdo ow182 fd120013)
set_option maxRecDepth 20000 in
theorem i182_76 : ex_ X d 182 76 [v0, .int x, v2, v3] [w0] h Q = ex_ X d 182 77 [v0, .int x, v2, v3] [.int x, w0] h Q := ex_nx (show mx_at 182 76 = some (.iload_n 1, 1) by decide +kernel) rfl
set_option maxRecDepth 20000 in
theorem i182_77 : ex_ X d 182 77 [v0, v1, v2, v3] [w0, w1] h Q = ex_ X d 182 78 [v0, v1, v2, v3] [.int 5, w0, w1] h Q := R_iconst (show mx_at 182 77 = some (.iconst 5, 1) by decide +kernel) (by decide)
set_option maxRecDepth 20000 in
theorem i182_78 : ex_ X (d + 1) 182 78 [v0, v1, v2, v3] [.int x2, .int x1, .ref a0] h Q = ev_ X d 129 [.ref a0, .int x1, .int x2] h (fun r h' => ex_ X (d + 1) 182 81 [v0, v1, v2, v3] (r.toList ++ []) h' Q) := R_stat (show mx_at 182 78 = some (.invokestatic 154, 3) by decide +kernel) (mx_clk ow182 cc12_154) (Nat.le_of_ble_eq_true rfl) rfl rfl (Nat.le_of_ble_eq_true rfl) ml129 (Nat.le_of_ble_eq_true rfl)
set_option maxRecDepth 20000 in
theorem i182_81 : ex_ X d 182 81 [v0, v1, v2, .int x] [w0] h Q = ex_ X d 182 82 [v0, v1, v2, .int x] [.int x, w0] h Q := ex_nx (show mx_at 182 81 = some (.iload_n 3, 1) by decide +kernel) rfl
set_option maxRecDepth 20000 in
theorem i182_82 : ex_ X d 182 82 [v0, v1, v2, v3] [.int y, .int x] h Q = ex_ X d 182 83 [v0, v1, v2, v3] [.int (x - y)] h Q := ex_nx (show mx_at 182 82 = some (.isub, 1) by decide +kernel) rfl
set_option maxRecDepth 20000 in
theorem i182_83 : ex_ X d 182 83 [v0, v1, v2, v3] [.int x] h Q = Q (some (.int x)) h := ex_ret (show mx_at 182 83 = some (.ireturn, 1) by decide +kernel) (mx_retI rt182)
theorem i182_e : ev_ X d 182 [.ref a, .int x0, .int x1] h Q = ex_ X d 182 0 [.ref a, .int x0, .int x1, .double 0] [] h Q := by rw [ev_, ml182]; rfl
-- 183 X12_tenth
set_option maxRecDepth 20000 in
theorem i183_0 : ex_ X d 183 0 [v0, .int x, v2, v3] [] h Q = ex_ X d 183 1 [v0, .int x, v2, v3] [.int x] h Q := ex_nx (show mx_at 183 0 = some (.iload_n 1, 1) by decide +kernel) rfl
set_option maxRecDepth 20000 in
theorem i183_1 : ex_ X (d + 1) 183 1 [v0, v1, v2, v3] [.int x0] h Q = ev_ X d 174 [.int x0] h (fun r h' => ex_ X (d + 1) 183 4 [v0, v1, v2, v3] (r.toList ++ []) h' Q) := R_stat (show mx_at 183 1 = some (.invokestatic 246, 3) by decide +kernel) (mx_clk ow183 cc12_246) (Nat.le_of_ble_eq_true rfl) rfl rfl (Nat.le_of_ble_eq_true rfl) ml174 (Nat.le_of_ble_eq_true rfl)
set_option maxRecDepth 20000 in
theorem i183_4 : ex_ X d 183 4 [v0, v1, v2, v3] [.int x] h Q = if x = 0 then ex_ X d 183 19 [v0, v1, v2, v3] [] h Q else ex_ X d 183 7 [v0, v1, v2, v3] [] h Q := (R_br (show mx_at 183 4 = some (.ifCond .eq 15, 3) by decide +kernel) rfl rfl).trans mx_ite
set_option maxRecDepth 20000 in
theorem i183_7 : ex_ X d 183 7 [v0, v1, .int x, v3] [] h Q = ex_ X d 183 8 [v0, v1, .int x, v3] [.int x] h Q := ex_nx (show mx_at 183 7 = some (.iload_n 2, 1) by decide +kernel) rfl
set_option maxRecDepth 20000 in
theorem i183_8 : ex_ X d 183 8 [v0, v1, v2, v3] [.int x] h Q = ex_ X d 183 9 [v0, v1, v2, v3] [.long x.toInt64] h Q := ex_nx (show mx_at 183 8 = some (.i2l, 1) by decide +kernel) rfl
set_option maxRecDepth 20000 in
theorem i183_9 : ex_ X d 183 9 [v0, v1, v2, v3] [w0] h Q = ex_ X d 183 10 [v0, v1, v2, v3] [.long 0, w0] h Q := ex_nx (show mx_at 183 9 = some (.lconst 0, 1) by decide +kernel) rfl
set_option maxRecDepth 20000 in
theorem i183_10 : ex_ X d 183 10 [v0, v1, v2, v3] [w0, w1] h Q = ex_ X d 183 13 [v0, v1, v2, v3] [.long 999, w0, w1] h Q := R_ldc2 (show mx_at 183 10 = some (.ldc2_w 187, 3) by decide +kernel) ow183 kl120187
set_option maxRecDepth 20000 in
theorem i183_13 : ex_ X (d + 1) 183 13 [v0, v1, v2, v3] [.long j2, .long j1, .long j0] h Q = ev_ X d 124 [.long j0, .long j1, .long j2] h (fun r h' => ex_ X (d + 1) 183 16 [v0, v1, v2, v3] (r.toList ++ []) h' Q) := R_stat (show mx_at 183 13 = some (.invokestatic 54, 3) by decide +kernel) (mx_clk ow183 cc12_54) (Nat.le_of_ble_eq_true rfl) rfl rfl (Nat.le_of_ble_eq_true rfl) ml124 (Nat.le_of_ble_eq_true rfl)
set_option maxRecDepth 20000 in
theorem i183_16 : ex_ X d 183 16 [v0, v1, v2, v3] [.int x] h Q = if ¬ x = 0 then ex_ X d 183 25 [v0, v1, v2, v3] [] h Q else ex_ X d 183 19 [v0, v1, v2, v3] [] h Q := (R_br (show mx_at 183 16 = some (.ifCond .ne 9, 3) by decide +kernel) rfl rfl).trans mx_ite
set_option maxRecDepth 20000 in
theorem i183_19 : ex_ X d 183 19 [.ref a, v1, v2, v3] [] h Q = ex_ X d 183 20 [.ref a, v1, v2, v3] [.ref a] h Q := ex_nx (show mx_at 183 19 = some (.aload_n 0, 1) by decide +kernel) rfl
set_option maxRecDepth 20000 in
theorem i183_20 : ex_ X d 183 20 [v0, v1, v2, v3] [w0] h Q = ex_ X d 183 21 [v0, v1, v2, v3] [.int 1, w0] h Q := R_iconst (show mx_at 183 20 = some (.iconst 1, 1) by decide +kernel) (by decide)
set_option maxRecDepth 20000 in
theorem i183_21 (hc : co_ h a = some 12) : ex_ X (d + 1) 183 21 [v0, v1, v2, v3] [.int x0, .ref a] h Q = ev_ X d 123 [.ref a, .int x0] h (fun r h' => ex_ X (d + 1) 183 24 [v0, v1, v2, v3] (r.toList ++ []) h' Q) := R_vir (show mx_at 183 21 = some (.invokevirtual 131, 3) by decide +kernel) (mx_clk ow183 cc12_131) (Nat.le_of_ble_eq_true rfl) rfl rfl hc rfl (Nat.le_of_ble_eq_true rfl) (Nat.le_of_ble_eq_true rfl) (by rw [ml123]; exact Nat.le_of_ble_eq_true rfl)
set_option maxRecDepth 20000 in
theorem i183_24 : ex_ X d 183 24 [v0, v1, v2, v3] [.int x] h Q = Q (some (.int x)) h := ex_ret (show mx_at 183 24 = some (.ireturn, 1) by decide +kernel) (mx_retI rt183)
set_option maxRecDepth 20000 in
theorem i183_25 : ex_ X d 183 25 [.ref a, v1, v2, v3] [] h Q = ex_ X d 183 26 [.ref a, v1, v2, v3] [.ref a] h Q := ex_nx (show mx_at 183 25 = some (.aload_n 0, 1) by decide +kernel) rfl
set_option maxRecDepth 20000 in
theorem i183_26 : ex_ X d 183 26 [v0, .int x, v2, v3] [w0] h Q = ex_ X d 183 27 [v0, .int x, v2, v3] [.int x, w0] h Q := ex_nx (show mx_at 183 26 = some (.iload_n 1, 1) by decide +kernel) rfl
set_option maxRecDepth 20000 in
theorem i183_27 (hc : co_ h a = some 12) : ex_ X (d + 1) 183 27 [v0, v1, v2, v3] [.int x0, .ref a] h Q = ev_ X d 175 [.ref a, .int x0] h (fun r h' => ex_ X (d + 1) 183 30 [v0, v1, v2, v3] (r.toList ++ []) h' Q) := R_vir (show mx_at 183 27 = some (.invokevirtual 249, 3) by decide +kernel) (mx_clk ow183 cc12_249) (Nat.le_of_ble_eq_true rfl) rfl rfl hc rfl (Nat.le_of_ble_eq_true rfl) (Nat.le_of_ble_eq_true rfl) (by rw [ml175]; exact Nat.le_of_ble_eq_true rfl)
set_option maxRecDepth 20000 in
theorem i183_30 : ex_ X d 183 30 [.ref a, v1, v2, v3] [] h Q = ex_ X d 183 31 [.ref a, v1, v2, v3] [.ref a] h Q := ex_nx (show mx_at 183 30 = some (.aload_n 0, 1) by decide +kernel) rfl
set_option maxRecDepth 20000 in
theorem i183_31 : ex_ X d 183 31 [v0, v1, v2, v3] [.ref a] h Q = (gk_ h a 1 [(12, 0)] = true ∧ ex_ X d 183 34 [v0, v1, v2, v3] [gv_ h a 1] h Q) := R_getf (show mx_at 183 31 = some (.getfield 13, 3) by decide +kernel) (mx_fdo ow183 fd120013)
set_option maxRecDepth 20000 in
theorem i183_34 : ex_ X (d + 1) 183 34 [v0, v1, v2, v3] [.ref a0] h Q = ev_ X d 178 [.ref a0] h (fun r h' => ex_ X (d + 1) 183 37 [v0, v1, v2, v3] (r.toList ++ []) h' Q) := R_stat (show mx_at 183 34 = some (.invokestatic 252, 3) by decide +kernel) (mx_clk ow183 cc12_252) (Nat.le_of_ble_eq_true rfl) rfl rfl (Nat.le_of_ble_eq_true rfl) ml178 (Nat.le_of_ble_eq_true rfl)
set_option maxRecDepth 20000 in
theorem i183_37 : ex_ X d 183 37 [v0, v1, v2, v3] [.int x] h Q = (mx_nl v2 = true ∧ ex_ X d 183 38 [v0, v1, v2, .int x] [] h Q) := mx_t1 (R_st (ok := mx_isI) (n := 3) (w := 1) (show mx_at 183 37 = some (.istore_n 3, 1) by decide +kernel) (fun _ _ => rfl) (Nat.le_of_ble_eq_true rfl)) rfl
set_option maxRecDepth 20000 in
theorem i183_38 : ex_ X d 183 38 [.ref a, v1, v2, v3] [] h Q = ex_ X d 183 39 [.ref a, v1, v2, v3] [.ref a] h Q := ex_nx (show mx_at 183 38 = some (.aload_n 0, 1) by decide +kernel) rfl
set_option maxRecDepth 20000 in
theorem i183_39 : ex_ X d 183 39 [v0, v1, v2, v3] [.ref a] h Q = (gk_ h a 0 [(12, 0)] = true ∧ ex_ X d 183 42 [v0, v1, v2, v3] [gv_ h a 0] h Q) := R_getf (show mx_at 183 39 = some (.getfield 7, 3) by decide +kernel) (mx_fdo ow183 fd120007)
set_option maxRecDepth 20000 in
theorem i183_42 : ex_ X d 183 42 [.ref a, v1, v2, v3] [w0] h Q = ex_ X d 183 43 [.ref a, v1, v2, v3] [.ref a, w0] h Q := ex_nx (show mx_at 183 42 = some (.aload_n 0, 1) by decide +kernel) rfl
set_option maxRecDepth 20000 in
theorem i183_43 : ex_ X d 183 43 [v0, v1, v2, v3] [.ref a, w0] h Q = (gk_ h a 1 [(12, 0)] = true ∧ ex_ X d 183 46 [v0, v1, v2, v3] [gv_ h a 1, w0] h Q) := R_getf (show mx_at 183 43 = some (.getfield 13, 3) by decide +kernel) (mx_fdo ow183 fd120013)
set_option maxRecDepth 20000 in
theorem i183_46 : ex_ X (d + 1) 183 46 [v0, v1, v2, v3] [.ref a1, .ref a0] h Q = ev_ X d 126 [.ref a0, .ref a1] h (fun r h' => ex_ X (d + 1) 183 49 [v0, v1, v2, v3] (r.toList ++ []) h' Q) := R_stat (show mx_at 183 46 = some (.invokestatic 242, 3) by decide +kernel) (mx_clk ow183 cc12_242) (Nat.le_of_ble_eq_true rfl) rfl rfl (Nat.le_of_ble_eq_true rfl) ml126 (Nat.le_of_ble_eq_true rfl)
set_option maxRecDepth 20000 in
theorem i183_49 : ex_ X d 183 49 [.ref a, v1, v2, v3] [] h Q = ex_ X d 183 50 [.ref a, v1, v2, v3] [.ref a] h Q := ex_nx (show mx_at 183 49 = some (.aload_n 0, 1) by decide +kernel) rfl
set_option maxRecDepth 20000 in
theorem i183_50 : ex_ X d 183 50 [v0, v1, v2, v3] [.ref a] h Q = (gk_ h a 1 [(12, 0)] = true ∧ ex_ X d 183 53 [v0, v1, v2, v3] [gv_ h a 1] h Q) := R_getf (show mx_at 183 50 = some (.getfield 13, 3) by decide +kernel) (mx_fdo ow183 fd120013)
set_option maxRecDepth 20000 in
theorem i183_53 : ex_ X d 183 53 [v0, v1, v2, v3] [w0] h Q = ex_ X d 183 55 [v0, v1, v2, v3] [.int 7, w0] h Q := R_bipush (show mx_at 183 53 = some (.bipush 7, 2) by decide +kernel) (by decide)
set_option maxRecDepth 20000 in
theorem i183_55 : ex_ X d 183 55 [v0, v1, .int x, v3] [w0, w1] h Q = ex_ X d 183 56 [v0, v1, .int x, v3] [.int x, w0, w1] h Q := ex_nx (show mx_at 183 55 = some (.iload_n 2, 1) by decide +kernel) rfl
set_option maxRecDepth 20000 in
theorem i183_56 : ex_ X d 183 56 [v0, v1, v2, v3] [.int x, .int i, .ref a] h Q = (ik_ h a i = true ∧ ex_ X d 183 57 [v0, v1, v2, v3] [] (is_ h a i x) Q) := R_iast (show mx_at 183 56 = some (.iastore, 1) by decide +kernel)
set_option maxRecDepth 20000 in
theorem i183_57 : ex_ X d 183 57 [.ref a, v1, v2, v3] [] h Q = ex_ X d 183 58 [.ref a, v1, v2, v3] [.ref a] h Q := ex_nx (show mx_at 183 57 = some (.aload_n 0, 1) by decide +kernel) rfl
set_option maxRecDepth 20000 in
theorem i183_58 : ex_ X d 183 58 [.ref a, v1, v2, v3] [w0] h Q = ex_ X d 183 59 [.ref a, v1, v2, v3] [.ref a, w0] h Q := ex_nx (show mx_at 183 58 = some (.aload_n 0, 1) by decide +kernel) rfl
set_option maxRecDepth 20000 in
theorem i183_59 : ex_ X d 183 59 [v0, v1, v2, v3] [.ref a, w0] h Q = (gk_ h a 1 [(12, 0)] = true ∧ ex_ X d 183 62 [v0, v1, v2, v3] [gv_ h a 1, w0] h Q) := R_getf (show mx_at 183 59 = some (.getfield 13, 3) by decide +kernel) (mx_fdo ow183 fd120013)
set_option maxRecDepth 20000 in
theorem i183_62 : ex_ X d 183 62 [v0, .int x, v2, v3] [w0, w1] h Q = ex_ X d 183 63 [v0, .int x, v2, v3] [.int x, w0, w1] h Q := ex_nx (show mx_at 183 62 = some (.iload_n 1, 1) by decide +kernel) rfl
set_option maxRecDepth 20000 in
theorem i183_63 (hc : co_ h a = some 12) : ex_ X (d + 1) 183 63 [v0, v1, v2, v3] [.int x1, .ref a0, .ref a] h Q = ev_ X d 171 [.ref a, .ref a0, .int x1] h (fun r h' => ex_ X (d + 1) 183 66 [v0, v1, v2, v3] (r.toList ++ []) h' Q) := R_vir (show mx_at 183 63 = some (.invokevirtual 238, 3) by decide +kernel) (mx_clk ow183 cc12_238) (Nat.le_of_ble_eq_true rfl) rfl rfl hc rfl (Nat.le_of_ble_eq_true rfl) (Nat.le_of_ble_eq_true rfl) (by rw [ml171]; exact Nat.le_of_ble_eq_true rfl)
set_option maxRecDepth 20000 in
theorem i183_66 : ex_ X d 183 66 [.ref a, v1, v2, v3] [] h Q = ex_ X d 183 67 [.ref a, v1, v2, v3] [.ref a] h Q := ex_nx (show mx_at 183 66 = some (.aload_n 0, 1) by decide +kernel) rfl
set_option maxRecDepth 20000 in
theorem i183_67 : ex_ X d 183 67 [v0, v1, v2, v3] [.ref a] h Q = (gk_ h a 1 [(12, 0)] = true ∧ ex_ X d 183 70 [v0, v1, v2, v3] [gv_ h a 1] h Q) := R_getf (show mx_at 183 67 = some (.getfield 13, 3) by decide +kernel) (mx_fdo ow183 fd120013)
set_option maxRecDepth 20000 in
theorem i183_70 : ex_ X (d + 1) 183 70 [v0, v1, v2, v3] [.ref a0] h Q = ev_ X d 178 [.ref a0] h (fun r h' => ex_ X (d + 1) 183 73 [v0, v1, v2, v3] (r.toList ++ []) h' Q) := R_stat (show mx_at 183 70 = some (.invokestatic 252, 3) by decide +kernel) (mx_clk ow183 cc12_252) (Nat.le_of_ble_eq_true rfl) rfl rfl (Nat.le_of_ble_eq_true rfl) ml178 (Nat.le_of_ble_eq_true rfl)
set_option maxRecDepth 20000 in
theorem i183_73 : ex_ X d 183 73 [v0, v1, v2, .int x] [w0] h Q = ex_ X d 183 74 [v0, v1, v2, .int x] [.int x, w0] h Q := ex_nx (show mx_at 183 73 = some (.iload_n 3, 1) by decide +kernel) rfl
set_option maxRecDepth 20000 in
theorem i183_74 : ex_ X d 183 74 [v0, v1, v2, v3] [.int y, .int x] h Q = ex_ X d 183 75 [v0, v1, v2, v3] [.int (x - y)] h Q := ex_nx (show mx_at 183 74 = some (.isub, 1) by decide +kernel) rfl
set_option maxRecDepth 20000 in
theorem i183_75 : ex_ X d 183 75 [v0, v1, v2, v3] [.int x] h Q = Q (some (.int x)) h := ex_ret (show mx_at 183 75 = some (.ireturn, 1) by decide +kernel) (mx_retI rt183)
theorem i183_e : ev_ X d 183 [.ref a, .int x0, .int x1] h Q = ex_ X d 183 0 [.ref a, .int x0, .int x1, .double 0] [] h Q := by rw [ev_, ml183]; rfl
-- 184 X12_gains
set_option maxRecDepth 20000 in
theorem i184_0 : ex_ X d 184 0 [v0, .int x, v2, v3] [] h Q = ex_ X d 184 1 [v0, .int x, v2, v3] [.int x] h Q := ex_nx (show mx_at 184 0 = some (.iload_n 1, 1) by decide +kernel) rfl
set_option maxRecDepth 20000 in
theorem i184_1 : ex_ X (d + 1) 184 1 [v0, v1, v2, v3] [.int x0] h Q = ev_ X d 174 [.int x0] h (fun r h' => ex_ X (d + 1) 184 4 [v0, v1, v2, v3] (r.toList ++ []) h' Q) := R_stat (show mx_at 184 1 = some (.invokestatic 246, 3) by decide +kernel) (mx_clk ow184 cc12_246) (Nat.le_of_ble_eq_true rfl) rfl rfl (Nat.le_of_ble_eq_true rfl) ml174 (Nat.le_of_ble_eq_true rfl)
set_option maxRecDepth 20000 in
theorem i184_4 : ex_ X d 184 4 [v0, v1, v2, v3] [.int x] h Q = if ¬ x = 0 then ex_ X d 184 13 [v0, v1, v2, v3] [] h Q else ex_ X d 184 7 [v0, v1, v2, v3] [] h Q := (R_br (show mx_at 184 4 = some (.ifCond .ne 9, 3) by decide +kernel) rfl rfl).trans mx_ite
set_option maxRecDepth 20000 in
theorem i184_7 : ex_ X d 184 7 [.ref a, v1, v2, v3] [] h Q = ex_ X d 184 8 [.ref a, v1, v2, v3] [.ref a] h Q := ex_nx (show mx_at 184 7 = some (.aload_n 0, 1) by decide +kernel) rfl
set_option maxRecDepth 20000 in
theorem i184_8 : ex_ X d 184 8 [v0, v1, v2, v3] [w0] h Q = ex_ X d 184 9 [v0, v1, v2, v3] [.int 1, w0] h Q := R_iconst (show mx_at 184 8 = some (.iconst 1, 1) by decide +kernel) (by decide)
set_option maxRecDepth 20000 in
theorem i184_9 (hc : co_ h a = some 12) : ex_ X (d + 1) 184 9 [v0, v1, v2, v3] [.int x0, .ref a] h Q = ev_ X d 123 [.ref a, .int x0] h (fun r h' => ex_ X (d + 1) 184 12 [v0, v1, v2, v3] (r.toList ++ []) h' Q) := R_vir (show mx_at 184 9 = some (.invokevirtual 131, 3) by decide +kernel) (mx_clk ow184 cc12_131) (Nat.le_of_ble_eq_true rfl) rfl rfl hc rfl (Nat.le_of_ble_eq_true rfl) (Nat.le_of_ble_eq_true rfl) (by rw [ml123]; exact Nat.le_of_ble_eq_true rfl)
set_option maxRecDepth 20000 in
theorem i184_12 : ex_ X d 184 12 [v0, v1, v2, v3] [.int x] h Q = Q (some (.int x)) h := ex_ret (show mx_at 184 12 = some (.ireturn, 1) by decide +kernel) (mx_retI rt184)
set_option maxRecDepth 20000 in
theorem i184_13 : ex_ X d 184 13 [.ref a, v1, v2, v3] [] h Q = ex_ X d 184 14 [.ref a, v1, v2, v3] [.ref a] h Q := ex_nx (show mx_at 184 13 = some (.aload_n 0, 1) by decide +kernel) rfl
set_option maxRecDepth 20000 in
theorem i184_14 : ex_ X d 184 14 [v0, v1, v2, v3] [.ref a] h Q = (gk_ h a 0 [(12, 0)] = true ∧ ex_ X d 184 17 [v0, v1, v2, v3] [gv_ h a 0] h Q) := R_getf (show mx_at 184 14 = some (.getfield 7, 3) by decide +kernel) (mx_fdo ow184 fd120007)
set_option maxRecDepth 20000 in
theorem i184_17 : ex_ X d 184 17 [v0, v1, v2, v3] [w0] h Q = ex_ X d 184 18 [v0, v1, v2, v3] [.int 1, w0] h Q := R_iconst (show mx_at 184 17 = some (.iconst 1, 1) by decide +kernel) (by decide)
set_option maxRecDepth 20000 in
theorem i184_18 : ex_ X d 184 18 [v0, v1, v2, v3] [.int i, .ref a] h Q = (ik_ h a i = true ∧ ex_ X d 184 19 [v0, v1, v2, v3] [.int (ia_ h a i)] h Q) := R_iald (show mx_at 184 18 = some (.iaload, 1) by decide +kernel)
set_option maxRecDepth 20000 in
theorem i184_19 : ex_ X d 184 19 [v0, v1, v2, v3] [.int x] h Q = if ¬ x = 0 then ex_ X d 184 28 [v0, v1, v2, v3] [] h Q else ex_ X d 184 22 [v0, v1, v2, v3] [] h Q := (R_br (show mx_at 184 19 = some (.ifCond .ne 9, 3) by decide +kernel) rfl rfl).trans mx_ite
set_option maxRecDepth 20000 in
theorem i184_22 : ex_ X d 184 22 [.ref a, v1, v2, v3] [] h Q = ex_ X d 184 23 [.ref a, v1, v2, v3] [.ref a] h Q := ex_nx (show mx_at 184 22 = some (.aload_n 0, 1) by decide +kernel) rfl
set_option maxRecDepth 20000 in
theorem i184_23 : ex_ X d 184 23 [v0, v1, v2, v3] [w0] h Q = ex_ X d 184 24 [v0, v1, v2, v3] [.int 2, w0] h Q := R_iconst (show mx_at 184 23 = some (.iconst 2, 1) by decide +kernel) (by decide)
set_option maxRecDepth 20000 in
theorem i184_24 (hc : co_ h a = some 12) : ex_ X (d + 1) 184 24 [v0, v1, v2, v3] [.int x0, .ref a] h Q = ev_ X d 123 [.ref a, .int x0] h (fun r h' => ex_ X (d + 1) 184 27 [v0, v1, v2, v3] (r.toList ++ []) h' Q) := R_vir (show mx_at 184 24 = some (.invokevirtual 131, 3) by decide +kernel) (mx_clk ow184 cc12_131) (Nat.le_of_ble_eq_true rfl) rfl rfl hc rfl (Nat.le_of_ble_eq_true rfl) (Nat.le_of_ble_eq_true rfl) (by rw [ml123]; exact Nat.le_of_ble_eq_true rfl)
set_option maxRecDepth 20000 in
theorem i184_27 : ex_ X d 184 27 [v0, v1, v2, v3] [.int x] h Q = Q (some (.int x)) h := ex_ret (show mx_at 184 27 = some (.ireturn, 1) by decide +kernel) (mx_retI rt184)
set_option maxRecDepth 20000 in
theorem i184_28 : ex_ X d 184 28 [.ref a, v1, v2, v3] [] h Q = ex_ X d 184 29 [.ref a, v1, v2, v3] [.ref a] h Q := ex_nx (show mx_at 184 28 = some (.aload_n 0, 1) by decide +kernel) rfl
set_option maxRecDepth 20000 in
theorem i184_29 : ex_ X d 184 29 [v0, .int x, v2, v3] [w0] h Q = ex_ X d 184 30 [v0, .int x, v2, v3] [.int x, w0] h Q := ex_nx (show mx_at 184 29 = some (.iload_n 1, 1) by decide +kernel) rfl
set_option maxRecDepth 20000 in
theorem i184_30 (hc : co_ h a = some 12) : ex_ X (d + 1) 184 30 [v0, v1, v2, v3] [.int x0, .ref a] h Q = ev_ X d 175 [.ref a, .int x0] h (fun r h' => ex_ X (d + 1) 184 33 [v0, v1, v2, v3] (r.toList ++ []) h' Q) := R_vir (show mx_at 184 30 = some (.invokevirtual 249, 3) by decide +kernel) (mx_clk ow184 cc12_249) (Nat.le_of_ble_eq_true rfl) rfl rfl hc rfl (Nat.le_of_ble_eq_true rfl) (Nat.le_of_ble_eq_true rfl) (by rw [ml175]; exact Nat.le_of_ble_eq_true rfl)
set_option maxRecDepth 20000 in
theorem i184_33 : ex_ X d 184 33 [v0, v1, v2, v3] [] h Q = ex_ X d 184 34 [v0, v1, v2, v3] [.int 0] h Q := R_iconst (show mx_at 184 33 = some (.iconst 0, 1) by decide +kernel) (by decide)
set_option maxRecDepth 20000 in
theorem i184_34 : ex_ X d 184 34 [v0, v1, v2, v3] [.int x] h Q = (mx_nl v1 = true ∧ ex_ X d 184 35 [v0, v1, .int x, v3] [] h Q) := mx_t1 (R_st (ok := mx_isI) (n := 2) (w := 1) (show mx_at 184 34 = some (.istore_n 2, 1) by decide +kernel) (fun _ _ => rfl) (Nat.le_of_ble_eq_true rfl)) rfl
set_option maxRecDepth 20000 in
theorem i184_35 : ex_ X d 184 35 [v0, v1, .int x, v3] [] h Q = ex_ X d 184 36 [v0, v1, .int x, v3] [.int x] h Q := ex_nx (show mx_at 184 35 = some (.iload_n 2, 1) by decide +kernel) rfl
set_option maxRecDepth 20000 in
theorem i184_36 : ex_ X d 184 36 [.ref a, v1, v2, v3] [w0] h Q = ex_ X d 184 37 [.ref a, v1, v2, v3] [.ref a, w0] h Q := ex_nx (show mx_at 184 36 = some (.aload_n 0, 1) by decide +kernel) rfl
set_option maxRecDepth 20000 in
theorem i184_37 : ex_ X d 184 37 [v0, v1, v2, v3] [.ref a, w0] h Q = (gk_ h a 0 [(12, 0)] = true ∧ ex_ X d 184 40 [v0, v1, v2, v3] [gv_ h a 0, w0] h Q) := R_getf (show mx_at 184 37 = some (.getfield 7, 3) by decide +kernel) (mx_fdo ow184 fd120007)
set_option maxRecDepth 20000 in
theorem i184_40 : ex_ X d 184 40 [v0, v1, v2, v3] [w0, w1] h Q = ex_ X d 184 41 [v0, v1, v2, v3] [.int 1, w0, w1] h Q := R_iconst (show mx_at 184 40 = some (.iconst 1, 1) by decide +kernel) (by decide)
set_option maxRecDepth 20000 in
theorem i184_41 : ex_ X d 184 41 [v0, v1, v2, v3] [.int i, .ref a, w0] h Q = (ik_ h a i = true ∧ ex_ X d 184 42 [v0, v1, v2, v3] [.int (ia_ h a i), w0] h Q) := R_iald (show mx_at 184 41 = some (.iaload, 1) by decide +kernel)
set_option maxRecDepth 20000 in
theorem i184_42 : ex_ X d 184 42 [v0, v1, v2, v3] [.int y, .int x] h Q = if y ≤ x then ex_ X d 184 66 [v0, v1, v2, v3] [] h Q else ex_ X d 184 45 [v0, v1, v2, v3] [] h Q := (R_br (show mx_at 184 42 = some (.if_icmp .ge 24, 3) by decide +kernel) rfl rfl).trans mx_ite
set_option maxRecDepth 20000 in
theorem i184_45 : ex_ X d 184 45 [.ref a, v1, v2, v3] [] h Q = ex_ X d 184 46 [.ref a, v1, v2, v3] [.ref a] h Q := ex_nx (show mx_at 184 45 = some (.aload_n 0, 1) by decide +kernel) rfl
set_option maxRecDepth 20000 in
theorem i184_46 : ex_ X d 184 46 [v0, v1, v2, v3] [.ref a] h Q = (gk_ h a 16 [(12, 0)] = true ∧ ex_ X d 184 49 [v0, v1, v2, v3] [gv_ h a 16] h Q) := R_getf (show mx_at 184 46 = some (.getfield 35, 3) by decide +kernel) (mx_fdo ow184 fd120035)
set_option maxRecDepth 20000 in
theorem i184_49 : ex_ X d 184 49 [v0, v1, .int x, v3] [w0] h Q = ex_ X d 184 50 [v0, v1, .int x, v3] [.int x, w0] h Q := ex_nx (show mx_at 184 49 = some (.iload_n 2, 1) by decide +kernel) rfl
set_option maxRecDepth 20000 in
theorem i184_50 : ex_ X d 184 50 [.ref a, v1, v2, v3] [w0, w1] h Q = ex_ X d 184 51 [.ref a, v1, v2, v3] [.ref a, w0, w1] h Q := ex_nx (show mx_at 184 50 = some (.aload_n 0, 1) by decide +kernel) rfl
set_option maxRecDepth 20000 in
theorem i184_51 : ex_ X d 184 51 [v0, v1, v2, v3] [.ref a, w0, w1] h Q = (gk_ h a 1 [(12, 0)] = true ∧ ex_ X d 184 54 [v0, v1, v2, v3] [gv_ h a 1, w0, w1] h Q) := R_getf (show mx_at 184 51 = some (.getfield 13, 3) by decide +kernel) (mx_fdo ow184 fd120013)
set_option maxRecDepth 20000 in
theorem i184_54 : ex_ X d 184 54 [v0, v1, .int x, v3] [w0, w1, w2] h Q = ex_ X d 184 55 [v0, v1, .int x, v3] [.int x, w0, w1, w2] h Q := ex_nx (show mx_at 184 54 = some (.iload_n 2, 1) by decide +kernel) rfl
set_option maxRecDepth 20000 in
theorem i184_55 : ex_ X d 184 55 [v0, v1, v2, v3] [w0, w1, w2, w3] h Q = ex_ X d 184 56 [v0, v1, v2, v3] [.int 5, w0, w1, w2, w3] h Q := R_iconst (show mx_at 184 55 = some (.iconst 5, 1) by decide +kernel) (by decide)
set_option maxRecDepth 20000 in
theorem i184_56 : ex_ X (d + 1) 184 56 [v0, v1, v2, v3] [.int x2, .int x1, .ref a0, w0, w1] h Q = ev_ X d 129 [.ref a0, .int x1, .int x2] h (fun r h' => ex_ X (d + 1) 184 59 [v0, v1, v2, v3] (r.toList ++ [w0, w1]) h' Q) := R_stat (show mx_at 184 56 = some (.invokestatic 154, 3) by decide +kernel) (mx_clk ow184 cc12_154) (Nat.le_of_ble_eq_true rfl) rfl rfl (Nat.le_of_ble_eq_true rfl) ml129 (Nat.le_of_ble_eq_true rfl)
set_option maxRecDepth 20000 in
theorem i184_59 : ex_ X d 184 59 [v0, v1, v2, v3] [.int x, .int i, .ref a] h Q = (ik_ h a i = true ∧ ex_ X d 184 60 [v0, v1, v2, v3] [] (is_ h a i x) Q) := R_iast (show mx_at 184 59 = some (.iastore, 1) by decide +kernel)
set_option maxRecDepth 20000 in
theorem i184_60 : ex_ X d 184 60 [v0, v1, .int x, v3] [] h Q = (mx_nl v1 = true ∧ ex_ X d 184 63 [v0, v1, .int (x + 1), v3] [] h Q) := R_iinc (n := 2) (c := 1) (show mx_at 184 60 = some (.iinc 2 1, 3) by decide +kernel) rfl
set_option maxRecDepth 20000 in
theorem i184_63 : ex_ X d 184 63 [v0, v1, v2, v3] [] h Q = ex_ X d 184 35 [v0, v1, v2, v3] [] h Q := R_to (show mx_at 184 63 = some (.goto (-28), 3) by decide +kernel) rfl rfl
set_option maxRecDepth 20000 in
theorem i184_66 : ex_ X d 184 66 [.ref a, v1, v2, v3] [] h Q = ex_ X d 184 67 [.ref a, v1, v2, v3] [.ref a] h Q := ex_nx (show mx_at 184 66 = some (.aload_n 0, 1) by decide +kernel) rfl
set_option maxRecDepth 20000 in
theorem i184_67 : ex_ X d 184 67 [v0, v1, v2, v3] [.ref a] h Q = (gk_ h a 0 [(12, 0)] = true ∧ ex_ X d 184 70 [v0, v1, v2, v3] [gv_ h a 0] h Q) := R_getf (show mx_at 184 67 = some (.getfield 7, 3) by decide +kernel) (mx_fdo ow184 fd120007)
set_option maxRecDepth 20000 in
theorem i184_70 : ex_ X d 184 70 [.ref a, v1, v2, v3] [w0] h Q = ex_ X d 184 71 [.ref a, v1, v2, v3] [.ref a, w0] h Q := ex_nx (show mx_at 184 70 = some (.aload_n 0, 1) by decide +kernel) rfl
set_option maxRecDepth 20000 in
theorem i184_71 : ex_ X d 184 71 [v0, v1, v2, v3] [.ref a, w0] h Q = (gk_ h a 1 [(12, 0)] = true ∧ ex_ X d 184 74 [v0, v1, v2, v3] [gv_ h a 1, w0] h Q) := R_getf (show mx_at 184 71 = some (.getfield 13, 3) by decide +kernel) (mx_fdo ow184 fd120013)
set_option maxRecDepth 20000 in
theorem i184_74 : ex_ X (d + 1) 184 74 [v0, v1, v2, v3] [.ref a1, .ref a0] h Q = ev_ X d 126 [.ref a0, .ref a1] h (fun r h' => ex_ X (d + 1) 184 77 [v0, v1, v2, v3] (r.toList ++ []) h' Q) := R_stat (show mx_at 184 74 = some (.invokestatic 242, 3) by decide +kernel) (mx_clk ow184 cc12_242) (Nat.le_of_ble_eq_true rfl) rfl rfl (Nat.le_of_ble_eq_true rfl) ml126 (Nat.le_of_ble_eq_true rfl)
set_option maxRecDepth 20000 in
theorem i184_77 : ex_ X d 184 77 [.ref a, v1, v2, v3] [] h Q = ex_ X d 184 78 [.ref a, v1, v2, v3] [.ref a] h Q := ex_nx (show mx_at 184 77 = some (.aload_n 0, 1) by decide +kernel) rfl
set_option maxRecDepth 20000 in
theorem i184_78 : ex_ X d 184 78 [v0, v1, v2, v3] [.ref a] h Q = (gk_ h a 1 [(12, 0)] = true ∧ ex_ X d 184 81 [v0, v1, v2, v3] [gv_ h a 1] h Q) := R_getf (show mx_at 184 78 = some (.getfield 13, 3) by decide +kernel) (mx_fdo ow184 fd120013)
set_option maxRecDepth 20000 in
theorem i184_81 : ex_ X d 184 81 [v0, v1, v2, v3] [w0] h Q = ex_ X d 184 83 [v0, v1, v2, v3] [.int 11, w0] h Q := R_bipush (show mx_at 184 81 = some (.bipush 11, 2) by decide +kernel) (by decide)
set_option maxRecDepth 20000 in
theorem i184_83 : ex_ X d 184 83 [v0, v1, v2, v3] [w0, w1] h Q = ex_ X d 184 84 [v0, v1, v2, v3] [.int 1, w0, w1] h Q := R_iconst (show mx_at 184 83 = some (.iconst 1, 1) by decide +kernel) (by decide)
set_option maxRecDepth 20000 in
theorem i184_84 : ex_ X d 184 84 [v0, v1, v2, v3] [.int x, .int i, .ref a] h Q = (ik_ h a i = true ∧ ex_ X d 184 85 [v0, v1, v2, v3] [] (is_ h a i x) Q) := R_iast (show mx_at 184 84 = some (.iastore, 1) by decide +kernel)
set_option maxRecDepth 20000 in
theorem i184_85 : ex_ X d 184 85 [.ref a, v1, v2, v3] [] h Q = ex_ X d 184 86 [.ref a, v1, v2, v3] [.ref a] h Q := ex_nx (show mx_at 184 85 = some (.aload_n 0, 1) by decide +kernel) rfl
set_option maxRecDepth 20000 in
theorem i184_86 : ex_ X d 184 86 [.ref a, v1, v2, v3] [w0] h Q = ex_ X d 184 87 [.ref a, v1, v2, v3] [.ref a, w0] h Q := ex_nx (show mx_at 184 86 = some (.aload_n 0, 1) by decide +kernel) rfl
set_option maxRecDepth 20000 in
theorem i184_87 : ex_ X d 184 87 [v0, v1, v2, v3] [.ref a, w0] h Q = (gk_ h a 1 [(12, 0)] = true ∧ ex_ X d 184 90 [v0, v1, v2, v3] [gv_ h a 1, w0] h Q) := R_getf (show mx_at 184 87 = some (.getfield 13, 3) by decide +kernel) (mx_fdo ow184 fd120013)
set_option maxRecDepth 20000 in
theorem i184_90 : ex_ X d 184 90 [v0, .int x, v2, v3] [w0, w1] h Q = ex_ X d 184 91 [v0, .int x, v2, v3] [.int x, w0, w1] h Q := ex_nx (show mx_at 184 90 = some (.iload_n 1, 1) by decide +kernel) rfl
set_option maxRecDepth 20000 in
theorem i184_91 (hc : co_ h a = some 12) : ex_ X (d + 1) 184 91 [v0, v1, v2, v3] [.int x1, .ref a0, .ref a] h Q = ev_ X d 171 [.ref a, .ref a0, .int x1] h (fun r h' => ex_ X (d + 1) 184 94 [v0, v1, v2, v3] (r.toList ++ []) h' Q) := R_vir (show mx_at 184 91 = some (.invokevirtual 238, 3) by decide +kernel) (mx_clk ow184 cc12_238) (Nat.le_of_ble_eq_true rfl) rfl rfl hc rfl (Nat.le_of_ble_eq_true rfl) (Nat.le_of_ble_eq_true rfl) (by rw [ml171]; exact Nat.le_of_ble_eq_true rfl)
set_option maxRecDepth 20000 in
theorem i184_94 : ex_ X d 184 94 [v0, v1, v2, v3] [] h Q = ex_ X d 184 95 [v0, v1, v2, v3] [.int 0] h Q := R_iconst (show mx_at 184 94 = some (.iconst 0, 1) by decide +kernel) (by decide)
set_option maxRecDepth 20000 in
theorem i184_95 : ex_ X d 184 95 [v0, v1, v2, v3] [.int x] h Q = (mx_nl v1 = true ∧ ex_ X d 184 96 [v0, v1, .int x, v3] [] h Q) := mx_t1 (R_st (ok := mx_isI) (n := 2) (w := 1) (show mx_at 184 95 = some (.istore_n 2, 1) by decide +kernel) (fun _ _ => rfl) (Nat.le_of_ble_eq_true rfl)) rfl
set_option maxRecDepth 20000 in
theorem i184_96 : ex_ X d 184 96 [v0, v1, v2, v3] [] h Q = ex_ X d 184 97 [v0, v1, v2, v3] [.int 1] h Q := R_iconst (show mx_at 184 96 = some (.iconst 1, 1) by decide +kernel) (by decide)
set_option maxRecDepth 20000 in
theorem i184_97 : ex_ X d 184 97 [v0, v1, v2, v3] [.int x] h Q = (mx_nl v2 = true ∧ ex_ X d 184 98 [v0, v1, v2, .int x] [] h Q) := mx_t1 (R_st (ok := mx_isI) (n := 3) (w := 1) (show mx_at 184 97 = some (.istore_n 3, 1) by decide +kernel) (fun _ _ => rfl) (Nat.le_of_ble_eq_true rfl)) rfl
set_option maxRecDepth 20000 in
theorem i184_98 : ex_ X d 184 98 [v0, v1, v2, .int x] [] h Q = ex_ X d 184 99 [v0, v1, v2, .int x] [.int x] h Q := ex_nx (show mx_at 184 98 = some (.iload_n 3, 1) by decide +kernel) rfl
set_option maxRecDepth 20000 in
theorem i184_99 : ex_ X d 184 99 [.ref a, v1, v2, v3] [w0] h Q = ex_ X d 184 100 [.ref a, v1, v2, v3] [.ref a, w0] h Q := ex_nx (show mx_at 184 99 = some (.aload_n 0, 1) by decide +kernel) rfl
set_option maxRecDepth 20000 in
theorem i184_100 : ex_ X d 184 100 [v0, v1, v2, v3] [.ref a, w0] h Q = (gk_ h a 0 [(12, 0)] = true ∧ ex_ X d 184 103 [v0, v1, v2, v3] [gv_ h a 0, w0] h Q) := R_getf (show mx_at 184 100 = some (.getfield 7, 3) by decide +kernel) (mx_fdo ow184 fd120007)
set_option maxRecDepth 20000 in
theorem i184_103 : ex_ X d 184 103 [v0, v1, v2, v3] [w0, w1] h Q = ex_ X d 184 104 [v0, v1, v2, v3] [.int 1, w0, w1] h Q := R_iconst (show mx_at 184 103 = some (.iconst 1, 1) by decide +kernel) (by decide)
set_option maxRecDepth 20000 in
theorem i184_104 : ex_ X d 184 104 [v0, v1, v2, v3] [.int i, .ref a, w0] h Q = (ik_ h a i = true ∧ ex_ X d 184 105 [v0, v1, v2, v3] [.int (ia_ h a i), w0] h Q) := R_iald (show mx_at 184 104 = some (.iaload, 1) by decide +kernel)
set_option maxRecDepth 20000 in
theorem i184_105 : ex_ X d 184 105 [v0, v1, v2, v3] [.int y, .int x] h Q = if y ≤ x then ex_ X d 184 155 [v0, v1, v2, v3] [] h Q else ex_ X d 184 108 [v0, v1, v2, v3] [] h Q := (R_br (show mx_at 184 105 = some (.if_icmp .ge 50, 3) by decide +kernel) rfl rfl).trans mx_ite
set_option maxRecDepth 20000 in
theorem i184_108 : ex_ X d 184 108 [.ref a, v1, v2, v3] [] h Q = ex_ X d 184 109 [.ref a, v1, v2, v3] [.ref a] h Q := ex_nx (show mx_at 184 108 = some (.aload_n 0, 1) by decide +kernel) rfl
set_option maxRecDepth 20000 in
theorem i184_109 : ex_ X d 184 109 [v0, v1, v2, v3] [.ref a] h Q = (gk_ h a 1 [(12, 0)] = true ∧ ex_ X d 184 112 [v0, v1, v2, v3] [gv_ h a 1] h Q) := R_getf (show mx_at 184 109 = some (.getfield 13, 3) by decide +kernel) (mx_fdo ow184 fd120013)
set_option maxRecDepth 20000 in
theorem i184_112 : ex_ X d 184 112 [v0, v1, v2, .int x] [w0] h Q = ex_ X d 184 113 [v0, v1, v2, .int x] [.int x, w0] h Q := ex_nx (show mx_at 184 112 = some (.iload_n 3, 1) by decide +kernel) rfl
set_option maxRecDepth 20000 in
theorem i184_113 : ex_ X d 184 113 [v0, v1, v2, v3] [w0, w1] h Q = ex_ X d 184 114 [v0, v1, v2, v3] [.int 5, w0, w1] h Q := R_iconst (show mx_at 184 113 = some (.iconst 5, 1) by decide +kernel) (by decide)
set_option maxRecDepth 20000 in
theorem i184_114 : ex_ X (d + 1) 184 114 [v0, v1, v2, v3] [.int x2, .int x1, .ref a0] h Q = ev_ X d 129 [.ref a0, .int x1, .int x2] h (fun r h' => ex_ X (d + 1) 184 117 [v0, v1, v2, v3] (r.toList ++ []) h' Q) := R_stat (show mx_at 184 114 = some (.invokestatic 154, 3) by decide +kernel) (mx_clk ow184 cc12_154) (Nat.le_of_ble_eq_true rfl) rfl rfl (Nat.le_of_ble_eq_true rfl) ml129 (Nat.le_of_ble_eq_true rfl)
set_option maxRecDepth 20000 in
theorem i184_117 : ex_ X d 184 117 [.ref a, v1, v2, v3] [w0] h Q = ex_ X d 184 118 [.ref a, v1, v2, v3] [.ref a, w0] h Q := ex_nx (show mx_at 184 117 = some (.aload_n 0, 1) by decide +kernel) rfl
set_option maxRecDepth 20000 in
theorem i184_118 : ex_ X d 184 118 [v0, v1, v2, v3] [.ref a, w0] h Q = (gk_ h a 16 [(12, 0)] = true ∧ ex_ X d 184 121 [v0, v1, v2, v3] [gv_ h a 16, w0] h Q) := R_getf (show mx_at 184 118 = some (.getfield 35, 3) by decide +kernel) (mx_fdo ow184 fd120035)
set_option maxRecDepth 20000 in
theorem i184_121 : ex_ X d 184 121 [v0, v1, v2, .int x] [w0, w1] h Q = ex_ X d 184 122 [v0, v1, v2, .int x] [.int x, w0, w1] h Q := ex_nx (show mx_at 184 121 = some (.iload_n 3, 1) by decide +kernel) rfl
set_option maxRecDepth 20000 in
theorem i184_122 : ex_ X d 184 122 [v0, v1, v2, v3] [.int i, .ref a, w0] h Q = (ik_ h a i = true ∧ ex_ X d 184 123 [v0, v1, v2, v3] [.int (ia_ h a i), w0] h Q) := R_iald (show mx_at 184 122 = some (.iaload, 1) by decide +kernel)
set_option maxRecDepth 20000 in
theorem i184_123 : ex_ X d 184 123 [v0, v1, v2, v3] [.int y, .int x] h Q = ex_ X d 184 124 [v0, v1, v2, v3] [.int (x - y)] h Q := ex_nx (show mx_at 184 123 = some (.isub, 1) by decide +kernel) rfl
set_option maxRecDepth 20000 in
theorem i184_124 : ex_ X d 184 124 [.ref a, v1, v2, v3] [w0] h Q = ex_ X d 184 125 [.ref a, v1, v2, v3] [.ref a, w0] h Q := ex_nx (show mx_at 184 124 = some (.aload_n 0, 1) by decide +kernel) rfl
set_option maxRecDepth 20000 in
theorem i184_125 : ex_ X d 184 125 [v0, v1, v2, v3] [.ref a, w0] h Q = (gk_ h a 1 [(12, 0)] = true ∧ ex_ X d 184 128 [v0, v1, v2, v3] [gv_ h a 1, w0] h Q) := R_getf (show mx_at 184 125 = some (.getfield 13, 3) by decide +kernel) (mx_fdo ow184 fd120013)
set_option maxRecDepth 20000 in
theorem i184_128 : ex_ X d 184 128 [v0, v1, .int x, v3] [w0, w1] h Q = ex_ X d 184 129 [v0, v1, .int x, v3] [.int x, w0, w1] h Q := ex_nx (show mx_at 184 128 = some (.iload_n 2, 1) by decide +kernel) rfl
set_option maxRecDepth 20000 in
theorem i184_129 : ex_ X d 184 129 [v0, v1, v2, v3] [w0, w1, w2] h Q = ex_ X d 184 130 [v0, v1, v2, v3] [.int 5, w0, w1, w2] h Q := R_iconst (show mx_at 184 129 = some (.iconst 5, 1) by decide +kernel) (by decide)
set_option maxRecDepth 20000 in
theorem i184_130 : ex_ X (d + 1) 184 130 [v0, v1, v2, v3] [.int x2, .int x1, .ref a0, w0] h Q = ev_ X d 129 [.ref a0, .int x1, .int x2] h (fun r h' => ex_ X (d + 1) 184 133 [v0, v1, v2, v3] (r.toList ++ [w0]) h' Q) := R_stat (show mx_at 184 130 = some (.invokestatic 154, 3) by decide +kernel) (mx_clk ow184 cc12_154) (Nat.le_of_ble_eq_true rfl) rfl rfl (Nat.le_of_ble_eq_true rfl) ml129 (Nat.le_of_ble_eq_true rfl)
set_option maxRecDepth 20000 in
theorem i184_133 : ex_ X d 184 133 [.ref a, v1, v2, v3] [w0, w1] h Q = ex_ X d 184 134 [.ref a, v1, v2, v3] [.ref a, w0, w1] h Q := ex_nx (show mx_at 184 133 = some (.aload_n 0, 1) by decide +kernel) rfl
set_option maxRecDepth 20000 in
theorem i184_134 : ex_ X d 184 134 [v0, v1, v2, v3] [.ref a, w0, w1] h Q = (gk_ h a 16 [(12, 0)] = true ∧ ex_ X d 184 137 [v0, v1, v2, v3] [gv_ h a 16, w0, w1] h Q) := R_getf (show mx_at 184 134 = some (.getfield 35, 3) by decide +kernel) (mx_fdo ow184 fd120035)
set_option maxRecDepth 20000 in
theorem i184_137 : ex_ X d 184 137 [v0, v1, .int x, v3] [w0, w1, w2] h Q = ex_ X d 184 138 [v0, v1, .int x, v3] [.int x, w0, w1, w2] h Q := ex_nx (show mx_at 184 137 = some (.iload_n 2, 1) by decide +kernel) rfl
set_option maxRecDepth 20000 in
theorem i184_138 : ex_ X d 184 138 [v0, v1, v2, v3] [.int i, .ref a, w0, w1] h Q = (ik_ h a i = true ∧ ex_ X d 184 139 [v0, v1, v2, v3] [.int (ia_ h a i), w0, w1] h Q) := R_iald (show mx_at 184 138 = some (.iaload, 1) by decide +kernel)
set_option maxRecDepth 20000 in
theorem i184_139 : ex_ X d 184 139 [v0, v1, v2, v3] [.int y, .int x, w0] h Q = ex_ X d 184 140 [v0, v1, v2, v3] [.int (x - y), w0] h Q := ex_nx (show mx_at 184 139 = some (.isub, 1) by decide +kernel) rfl
set_option maxRecDepth 20000 in
theorem i184_140 : ex_ X d 184 140 [v0, v1, v2, v3] [.int y, .int x] h Q = if x ≤ y then ex_ X d 184 147 [v0, v1, v2, v3] [] h Q else ex_ X d 184 143 [v0, v1, v2, v3] [] h Q := (R_br (show mx_at 184 140 = some (.if_icmp .le 7, 3) by decide +kernel) rfl rfl).trans mx_ite
set_option maxRecDepth 20000 in
theorem i184_143 : ex_ X d 184 143 [v0, v1, v2, .int x] [] h Q = ex_ X d 184 144 [v0, v1, v2, .int x] [.int x] h Q := ex_nx (show mx_at 184 143 = some (.iload_n 3, 1) by decide +kernel) rfl
set_option maxRecDepth 20000 in
theorem i184_144 : ex_ X d 184 144 [v0, v1, v2, v3] [w0] h Q = ex_ X d 184 148 [v0, v1, v2, v3] [w0] h Q := R_to (show mx_at 184 144 = some (.goto 4, 3) by decide +kernel) rfl rfl
set_option maxRecDepth 20000 in
theorem i184_147 : ex_ X d 184 147 [v0, v1, .int x, v3] [] h Q = ex_ X d 184 148 [v0, v1, .int x, v3] [.int x] h Q := ex_nx (show mx_at 184 147 = some (.iload_n 2, 1) by decide +kernel) rfl
set_option maxRecDepth 20000 in
theorem i184_148 : ex_ X d 184 148 [v0, v1, v2, v3] [.int x] h Q = (mx_nl v1 = true ∧ ex_ X d 184 149 [v0, v1, .int x, v3] [] h Q) := mx_t1 (R_st (ok := mx_isI) (n := 2) (w := 1) (show mx_at 184 148 = some (.istore_n 2, 1) by decide +kernel) (fun _ _ => rfl) (Nat.le_of_ble_eq_true rfl)) rfl
set_option maxRecDepth 20000 in
theorem i184_149 : ex_ X d 184 149 [v0, v1, v2, .int x] [] h Q = (mx_nl v2 = true ∧ ex_ X d 184 152 [v0, v1, v2, .int (x + 1)] [] h Q) := R_iinc (n := 3) (c := 1) (show mx_at 184 149 = some (.iinc 3 1, 3) by decide +kernel) rfl
set_option maxRecDepth 20000 in
theorem i184_152 : ex_ X d 184 152 [v0, v1, v2, v3] [] h Q = ex_ X d 184 98 [v0, v1, v2, v3] [] h Q := R_to (show mx_at 184 152 = some (.goto (-54), 3) by decide +kernel) rfl rfl
set_option maxRecDepth 20000 in
theorem i184_155 : ex_ X d 184 155 [v0, v1, .int x, v3] [] h Q = ex_ X d 184 156 [v0, v1, .int x, v3] [.int x] h Q := ex_nx (show mx_at 184 155 = some (.iload_n 2, 1) by decide +kernel) rfl
set_option maxRecDepth 20000 in
theorem i184_156 : ex_ X d 184 156 [v0, v1, v2, v3] [.int x] h Q = Q (some (.int x)) h := ex_ret (show mx_at 184 156 = some (.ireturn, 1) by decide +kernel) (mx_retI rt184)
theorem i184_e : ev_ X d 184 [.ref a, .int x0] h Q = ex_ X d 184 0 [.ref a, .int x0, .double 0, .double 0] [] h Q := by rw [ev_, ml184]; rfl
-- 185 X12_cutOf
set_option maxRecDepth 20000 in
theorem i185_0 : ex_ X d 185 0 [v0, .int x, v2] [] h Q = ex_ X d 185 1 [v0, .int x, v2] [.int x] h Q := ex_nx (show mx_at 185 0 = some (.iload_n 1, 1) by decide +kernel) rfl
set_option maxRecDepth 20000 in
theorem i185_1 : ex_ X d 185 1 [v0, v1, v2] [.int x] h Q = if ¬ x = 0 then ex_ X d 185 10 [v0, v1, v2] [] h Q else ex_ X d 185 4 [v0, v1, v2] [] h Q := (R_br (show mx_at 185 1 = some (.ifCond .ne 9, 3) by decide +kernel) rfl rfl).trans mx_ite
set_option maxRecDepth 20000 in
theorem i185_4 : ex_ X d 185 4 [.int x, v1, v2] [] h Q = ex_ X d 185 5 [.int x, v1, v2] [.int x] h Q := ex_nx (show mx_at 185 4 = some (.iload_n 0, 1) by decide +kernel) rfl
set_option maxRecDepth 20000 in
theorem i185_5 : ex_ X d 185 5 [v0, v1, v2] [w0] h Q = ex_ X d 185 6 [v0, v1, v2] [.int 5, w0] h Q := R_iconst (show mx_at 185 5 = some (.iconst 5, 1) by decide +kernel) (by decide)
set_option maxRecDepth 20000 in
theorem i185_6 : ex_ X d 185 6 [v0, v1, v2] [.int y, .int x] h Q = (y ≠ 0 ∧ ex_ X d 185 7 [v0, v1, v2] [.int (x - x / y * y)] h Q) := R_rem (show mx_at 185 6 = some (.irem, 1) by decide +kernel)
set_option maxRecDepth 20000 in
theorem i185_7 : ex_ X d 185 7 [v0, v1, v2] [w0] h Q = ex_ X d 185 27 [v0, v1, v2] [w0] h Q := R_to (show mx_at 185 7 = some (.goto 20, 3) by decide +kernel) rfl rfl
set_option maxRecDepth 20000 in
theorem i185_10 : ex_ X d 185 10 [v0, .int x, v2] [] h Q = ex_ X d 185 11 [v0, .int x, v2] [.int x] h Q := ex_nx (show mx_at 185 10 = some (.iload_n 1, 1) by decide +kernel) rfl
set_option maxRecDepth 20000 in
theorem i185_11 : ex_ X d 185 11 [v0, v1, v2] [w0] h Q = ex_ X d 185 12 [v0, v1, v2] [.int 1, w0] h Q := R_iconst (show mx_at 185 11 = some (.iconst 1, 1) by decide +kernel) (by decide)
set_option maxRecDepth 20000 in
theorem i185_12 : ex_ X d 185 12 [v0, v1, v2] [.int y, .int x] h Q = if ¬ x = y then ex_ X d 185 23 [v0, v1, v2] [] h Q else ex_ X d 185 15 [v0, v1, v2] [] h Q := (R_br (show mx_at 185 12 = some (.if_icmp .ne 11, 3) by decide +kernel) rfl rfl).trans mx_ite
set_option maxRecDepth 20000 in
theorem i185_15 : ex_ X d 185 15 [.int x, v1, v2] [] h Q = ex_ X d 185 16 [.int x, v1, v2] [.int x] h Q := ex_nx (show mx_at 185 15 = some (.iload_n 0, 1) by decide +kernel) rfl
set_option maxRecDepth 20000 in
theorem i185_16 : ex_ X d 185 16 [v0, v1, v2] [w0] h Q = ex_ X d 185 17 [v0, v1, v2] [.int 5, w0] h Q := R_iconst (show mx_at 185 16 = some (.iconst 5, 1) by decide +kernel) (by decide)
set_option maxRecDepth 20000 in
theorem i185_17 : ex_ X d 185 17 [v0, v1, v2] [.int y, .int x] h Q = (y ≠ 0 ∧ ex_ X d 185 18 [v0, v1, v2] [.int (x / y)] h Q) := R_div (show mx_at 185 17 = some (.idiv, 1) by decide +kernel)
set_option maxRecDepth 20000 in
theorem i185_18 : ex_ X d 185 18 [v0, v1, v2] [w0] h Q = ex_ X d 185 19 [v0, v1, v2] [.int 5, w0] h Q := R_iconst (show mx_at 185 18 = some (.iconst 5, 1) by decide +kernel) (by decide)
set_option maxRecDepth 20000 in
theorem i185_19 : ex_ X d 185 19 [v0, v1, v2] [.int y, .int x] h Q = (y ≠ 0 ∧ ex_ X d 185 20 [v0, v1, v2] [.int (x - x / y * y)] h Q) := R_rem (show mx_at 185 19 = some (.irem, 1) by decide +kernel)
set_option maxRecDepth 20000 in
theorem i185_20 : ex_ X d 185 20 [v0, v1, v2] [w0] h Q = ex_ X d 185 27 [v0, v1, v2] [w0] h Q := R_to (show mx_at 185 20 = some (.goto 7, 3) by decide +kernel) rfl rfl
set_option maxRecDepth 20000 in
theorem i185_23 : ex_ X d 185 23 [.int x, v1, v2] [] h Q = ex_ X d 185 24 [.int x, v1, v2] [.int x] h Q := ex_nx (show mx_at 185 23 = some (.iload_n 0, 1) by decide +kernel) rfl
set_option maxRecDepth 20000 in
theorem i185_24 : ex_ X d 185 24 [v0, v1, v2] [w0] h Q = ex_ X d 185 26 [v0, v1, v2] [.int 25, w0] h Q := R_bipush (show mx_at 185 24 = some (.bipush 25, 2) by decide +kernel) (by decide)
set_option maxRecDepth 20000 in
theorem i185_26 : ex_ X d 185 26 [v0, v1, v2] [.int y, .int x] h Q = (y ≠ 0 ∧ ex_ X d 185 27 [v0, v1, v2] [.int (x / y)] h Q) := R_div (show mx_at 185 26 = some (.idiv, 1) by decide +kernel)
set_option maxRecDepth 20000 in
theorem i185_27 : ex_ X d 185 27 [v0, v1, v2] [.int x] h Q = (mx_nl v1 = true ∧ ex_ X d 185 28 [v0, v1, .int x] [] h Q) := mx_t1 (R_st (ok := mx_isI) (n := 2) (w := 1) (show mx_at 185 27 = some (.istore_n 2, 1) by decide +kernel) (fun _ _ => rfl) (Nat.le_of_ble_eq_true rfl)) rfl
set_option maxRecDepth 20000 in
theorem i185_28 : ex_ X d 185 28 [v0, v1, .int x] [] h Q = ex_ X d 185 29 [v0, v1, .int x] [.int x] h Q := ex_nx (show mx_at 185 28 = some (.iload_n 2, 1) by decide +kernel) rfl
set_option maxRecDepth 20000 in
theorem i185_29 : ex_ X d 185 29 [v0, v1, v2] [.int x] h Q = if ¬ x = 0 then ex_ X d 185 36 [v0, v1, v2] [] h Q else ex_ X d 185 32 [v0, v1, v2] [] h Q := (R_br (show mx_at 185 29 = some (.ifCond .ne 7, 3) by decide +kernel) rfl rfl).trans mx_ite
set_option maxRecDepth 20000 in
theorem i185_32 : ex_ X d 185 32 [v0, v1, v2] [] h Q = ex_ X d 185 33 [v0, v1, v2] [.int 0] h Q := R_iconst (show mx_at 185 32 = some (.iconst 0, 1) by decide +kernel) (by decide)
set_option maxRecDepth 20000 in
theorem i185_33 : ex_ X d 185 33 [v0, v1, v2] [w0] h Q = ex_ X d 185 68 [v0, v1, v2] [w0] h Q := R_to (show mx_at 185 33 = some (.goto 35, 3) by decide +kernel) rfl rfl
set_option maxRecDepth 20000 in
theorem i185_36 : ex_ X d 185 36 [v0, v1, .int x] [] h Q = ex_ X d 185 37 [v0, v1, .int x] [.int x] h Q := ex_nx (show mx_at 185 36 = some (.iload_n 2, 1) by decide +kernel) rfl
set_option maxRecDepth 20000 in
theorem i185_37 : ex_ X d 185 37 [v0, v1, v2] [w0] h Q = ex_ X d 185 38 [v0, v1, v2] [.int 1, w0] h Q := R_iconst (show mx_at 185 37 = some (.iconst 1, 1) by decide +kernel) (by decide)
set_option maxRecDepth 20000 in
theorem i185_38 : ex_ X d 185 38 [v0, v1, v2] [.int y, .int x] h Q = if ¬ x = y then ex_ X d 185 46 [v0, v1, v2] [] h Q else ex_ X d 185 41 [v0, v1, v2] [] h Q := (R_br (show mx_at 185 38 = some (.if_icmp .ne 8, 3) by decide +kernel) rfl rfl).trans mx_ite
set_option maxRecDepth 20000 in
theorem i185_41 : ex_ X d 185 41 [v0, v1, v2] [] h Q = ex_ X d 185 43 [v0, v1, v2] [.int 10] h Q := R_bipush (show mx_at 185 41 = some (.bipush 10, 2) by decide +kernel) (by decide)
set_option maxRecDepth 20000 in
theorem i185_43 : ex_ X d 185 43 [v0, v1, v2] [w0] h Q = ex_ X d 185 68 [v0, v1, v2] [w0] h Q := R_to (show mx_at 185 43 = some (.goto 25, 3) by decide +kernel) rfl rfl
set_option maxRecDepth 20000 in
theorem i185_46 : ex_ X d 185 46 [v0, v1, .int x] [] h Q = ex_ X d 185 47 [v0, v1, .int x] [.int x] h Q := ex_nx (show mx_at 185 46 = some (.iload_n 2, 1) by decide +kernel) rfl
set_option maxRecDepth 20000 in
theorem i185_47 : ex_ X d 185 47 [v0, v1, v2] [w0] h Q = ex_ X d 185 48 [v0, v1, v2] [.int 2, w0] h Q := R_iconst (show mx_at 185 47 = some (.iconst 2, 1) by decide +kernel) (by decide)
set_option maxRecDepth 20000 in
theorem i185_48 : ex_ X d 185 48 [v0, v1, v2] [.int y, .int x] h Q = if ¬ x = y then ex_ X d 185 56 [v0, v1, v2] [] h Q else ex_ X d 185 51 [v0, v1, v2] [] h Q := (R_br (show mx_at 185 48 = some (.if_icmp .ne 8, 3) by decide +kernel) rfl rfl).trans mx_ite
set_option maxRecDepth 20000 in
theorem i185_51 : ex_ X d 185 51 [v0, v1, v2] [] h Q = ex_ X d 185 53 [v0, v1, v2] [.int 20] h Q := R_bipush (show mx_at 185 51 = some (.bipush 20, 2) by decide +kernel) (by decide)
set_option maxRecDepth 20000 in
theorem i185_53 : ex_ X d 185 53 [v0, v1, v2] [w0] h Q = ex_ X d 185 68 [v0, v1, v2] [w0] h Q := R_to (show mx_at 185 53 = some (.goto 15, 3) by decide +kernel) rfl rfl
set_option maxRecDepth 20000 in
theorem i185_56 : ex_ X d 185 56 [v0, v1, .int x] [] h Q = ex_ X d 185 57 [v0, v1, .int x] [.int x] h Q := ex_nx (show mx_at 185 56 = some (.iload_n 2, 1) by decide +kernel) rfl
set_option maxRecDepth 20000 in
theorem i185_57 : ex_ X d 185 57 [v0, v1, v2] [w0] h Q = ex_ X d 185 58 [v0, v1, v2] [.int 3, w0] h Q := R_iconst (show mx_at 185 57 = some (.iconst 3, 1) by decide +kernel) (by decide)
set_option maxRecDepth 20000 in
theorem i185_58 : ex_ X d 185 58 [v0, v1, v2] [.int y, .int x] h Q = if ¬ x = y then ex_ X d 185 66 [v0, v1, v2] [] h Q else ex_ X d 185 61 [v0, v1, v2] [] h Q := (R_br (show mx_at 185 58 = some (.if_icmp .ne 8, 3) by decide +kernel) rfl rfl).trans mx_ite
set_option maxRecDepth 20000 in
theorem i185_61 : ex_ X d 185 61 [v0, v1, v2] [] h Q = ex_ X d 185 63 [v0, v1, v2] [.int 50] h Q := R_bipush (show mx_at 185 61 = some (.bipush 50, 2) by decide +kernel) (by decide)
set_option maxRecDepth 20000 in
theorem i185_63 : ex_ X d 185 63 [v0, v1, v2] [w0] h Q = ex_ X d 185 68 [v0, v1, v2] [w0] h Q := R_to (show mx_at 185 63 = some (.goto 5, 3) by decide +kernel) rfl rfl
set_option maxRecDepth 20000 in
theorem i185_66 : ex_ X d 185 66 [v0, v1, v2] [] h Q = ex_ X d 185 68 [v0, v1, v2] [.int 100] h Q := R_bipush (show mx_at 185 66 = some (.bipush 100, 2) by decide +kernel) (by decide)
set_option maxRecDepth 20000 in
theorem i185_68 : ex_ X d 185 68 [v0, v1, v2] [.int x] h Q = Q (some (.int x)) h := ex_ret (show mx_at 185 68 = some (.ireturn, 1) by decide +kernel) (mx_retI rt185)
theorem i185_e : ev_ X d 185 [.int x0, .int x1] h Q = ex_ X d 185 0 [.int x0, .int x1, .double 0] [] h Q := by rw [ev_, ml185]; rfl
-- 186 X12_down
set_option maxRecDepth 20000 in
theorem i186_0 : ex_ X d 186 0 [.ref a, v1, v2, v3, v4, v5, v6, v7, v8, v9, v10] [] h Q = ex_ X d 186 1 [.ref a, v1, v2, v3, v4, v5, v6, v7, v8, v9, v10] [.ref a] h Q := ex_nx (show mx_at 186 0 = some (.aload_n 0, 1) by decide +kernel) rfl
set_option maxRecDepth 20000 in
theorem i186_1 : ex_ X d 186 1 [v0, .int x, v2, v3, v4, v5, v6, v7, v8, v9, v10] [w0] h Q = ex_ X d 186 2 [v0, .int x, v2, v3, v4, v5, v6, v7, v8, v9, v10] [.int x, w0] h Q := ex_nx (show mx_at 186 1 = some (.iload_n 1, 1) by decide +kernel) rfl
set_option maxRecDepth 20000 in
theorem i186_2 (hc : co_ h a = some 12) : ex_ X (d + 1) 186 2 [v0, v1, v2, v3, v4, v5, v6, v7, v8, v9, v10] [.int x0, .ref a] h Q = ev_ X d 127 [.ref a, .int x0] h (fun r h' => ex_ X (d + 1) 186 5 [v0, v1, v2, v3, v4, v5, v6, v7, v8, v9, v10] (r.toList ++ []) h' Q) := R_vir (show mx_at 186 2 = some (.invokevirtual 173, 3) by decide +kernel) (mx_clk ow186 cc12_173) (Nat.le_of_ble_eq_true rfl) rfl rfl hc rfl (Nat.le_of_ble_eq_true rfl) (Nat.le_of_ble_eq_true rfl) (by rw [ml127]; exact Nat.le_of_ble_eq_true rfl)
set_option maxRecDepth 20000 in
theorem i186_5 : ex_ X d 186 5 [v0, v1, v2, v3, v4, v5, v6, v7, v8, v9, v10] [.int x] h Q = if x = 0 then ex_ X d 186 50 [v0, v1, v2, v3, v4, v5, v6, v7, v8, v9, v10] [] h Q else ex_ X d 186 8 [v0, v1, v2, v3, v4, v5, v6, v7, v8, v9, v10] [] h Q := (R_br (show mx_at 186 5 = some (.ifCond .eq 45, 3) by decide +kernel) rfl rfl).trans mx_ite
set_option maxRecDepth 20000 in
theorem i186_8 : ex_ X d 186 8 [v0, v1, .int x, v3, v4, v5, v6, v7, v8, v9, v10] [] h Q = ex_ X d 186 9 [v0, v1, .int x, v3, v4, v5, v6, v7, v8, v9, v10] [.int x] h Q := ex_nx (show mx_at 186 8 = some (.iload_n 2, 1) by decide +kernel) rfl
set_option maxRecDepth 20000 in
theorem i186_9 : ex_ X d 186 9 [v0, v1, v2, v3, v4, v5, v6, v7, v8, v9, v10] [.int x] h Q = ex_ X d 186 10 [v0, v1, v2, v3, v4, v5, v6, v7, v8, v9, v10] [.long x.toInt64] h Q := ex_nx (show mx_at 186 9 = some (.i2l, 1) by decide +kernel) rfl
set_option maxRecDepth 20000 in
theorem i186_10 : ex_ X d 186 10 [v0, v1, v2, v3, v4, v5, v6, v7, v8, v9, v10] [w0] h Q = ex_ X d 186 11 [v0, v1, v2, v3, v4, v5, v6, v7, v8, v9, v10] [.long 1, w0] h Q := ex_nx (show mx_at 186 10 = some (.lconst 1, 1) by decide +kernel) rfl
set_option maxRecDepth 20000 in
theorem i186_11 : ex_ X d 186 11 [v0, v1, v2, v3, v4, v5, v6, v7, v8, v9, v10] [w0, w1] h Q = ex_ X d 186 14 [v0, v1, v2, v3, v4, v5, v6, v7, v8, v9, v10] [.long 9, w0, w1] h Q := R_ldc2 (show mx_at 186 11 = some (.ldc2_w 193, 3) by decide +kernel) ow186 kl120193
set_option maxRecDepth 20000 in
theorem i186_14 : ex_ X (d + 1) 186 14 [v0, v1, v2, v3, v4, v5, v6, v7, v8, v9, v10] [.long j2, .long j1, .long j0] h Q = ev_ X d 124 [.long j0, .long j1, .long j2] h (fun r h' => ex_ X (d + 1) 186 17 [v0, v1, v2, v3, v4, v5, v6, v7, v8, v9, v10] (r.toList ++ []) h' Q) := R_stat (show mx_at 186 14 = some (.invokestatic 54, 3) by decide +kernel) (mx_clk ow186 cc12_54) (Nat.le_of_ble_eq_true rfl) rfl rfl (Nat.le_of_ble_eq_true rfl) ml124 (Nat.le_of_ble_eq_true rfl)
set_option maxRecDepth 20000 in
theorem i186_17 : ex_ X d 186 17 [v0, v1, v2, v3, v4, v5, v6, v7, v8, v9, v10] [.int x] h Q = if x = 0 then ex_ X d 186 50 [v0, v1, v2, v3, v4, v5, v6, v7, v8, v9, v10] [] h Q else ex_ X d 186 20 [v0, v1, v2, v3, v4, v5, v6, v7, v8, v9, v10] [] h Q := (R_br (show mx_at 186 17 = some (.ifCond .eq 33, 3) by decide +kernel) rfl rfl).trans mx_ite
set_option maxRecDepth 20000 in
theorem i186_20 : ex_ X d 186 20 [v0, v1, v2, .int x, v4, v5, v6, v7, v8, v9, v10] [] h Q = ex_ X d 186 21 [v0, v1, v2, .int x, v4, v5, v6, v7, v8, v9, v10] [.int x] h Q := ex_nx (show mx_at 186 20 = some (.iload_n 3, 1) by decide +kernel) rfl
set_option maxRecDepth 20000 in
theorem i186_21 : ex_ X d 186 21 [v0, v1, v2, v3, v4, v5, v6, v7, v8, v9, v10] [.int x] h Q = ex_ X d 186 22 [v0, v1, v2, v3, v4, v5, v6, v7, v8, v9, v10] [.long x.toInt64] h Q := ex_nx (show mx_at 186 21 = some (.i2l, 1) by decide +kernel) rfl
set_option maxRecDepth 20000 in
theorem i186_22 : ex_ X d 186 22 [v0, v1, v2, v3, v4, v5, v6, v7, v8, v9, v10] [w0] h Q = ex_ X d 186 25 [v0, v1, v2, v3, v4, v5, v6, v7, v8, v9, v10] [.long 2, w0] h Q := R_ldc2 (show mx_at 186 22 = some (.ldc2_w 179, 3) by decide +kernel) ow186 kl120179
set_option maxRecDepth 20000 in
theorem i186_25 : ex_ X d 186 25 [v0, v1, v2, v3, v4, v5, v6, v7, v8, v9, v10] [w0, w1] h Q = ex_ X d 186 28 [v0, v1, v2, v3, v4, v5, v6, v7, v8, v9, v10] [.long 3, w0, w1] h Q := R_ldc2 (show mx_at 186 25 = some (.ldc2_w 256, 3) by decide +kernel) ow186 kl120256
set_option maxRecDepth 20000 in
theorem i186_28 : ex_ X (d + 1) 186 28 [v0, v1, v2, v3, v4, v5, v6, v7, v8, v9, v10] [.long j2, .long j1, .long j0] h Q = ev_ X d 124 [.long j0, .long j1, .long j2] h (fun r h' => ex_ X (d + 1) 186 31 [v0, v1, v2, v3, v4, v5, v6, v7, v8, v9, v10] (r.toList ++ []) h' Q) := R_stat (show mx_at 186 28 = some (.invokestatic 54, 3) by decide +kernel) (mx_clk ow186 cc12_54) (Nat.le_of_ble_eq_true rfl) rfl rfl (Nat.le_of_ble_eq_true rfl) ml124 (Nat.le_of_ble_eq_true rfl)
set_option maxRecDepth 20000 in
theorem i186_31 : ex_ X d 186 31 [v0, v1, v2, v3, v4, v5, v6, v7, v8, v9, v10] [.int x] h Q = if x = 0 then ex_ X d 186 50 [v0, v1, v2, v3, v4, v5, v6, v7, v8, v9, v10] [] h Q else ex_ X d 186 34 [v0, v1, v2, v3, v4, v5, v6, v7, v8, v9, v10] [] h Q := (R_br (show mx_at 186 31 = some (.ifCond .eq 19, 3) by decide +kernel) rfl rfl).trans mx_ite
set_option maxRecDepth 20000 in
theorem i186_34 : ex_ X d 186 34 [v0, v1, v2, v3, .int x, v5, v6, v7, v8, v9, v10] [] h Q = ex_ X d 186 36 [v0, v1, v2, v3, .int x, v5, v6, v7, v8, v9, v10] [.int x] h Q := ex_nx (show mx_at 186 34 = some (.iload 4, 2) by decide +kernel) rfl
set_option maxRecDepth 20000 in
theorem i186_36 : ex_ X d 186 36 [v0, v1, v2, v3, v4, v5, v6, v7, v8, v9, v10] [.int x] h Q = ex_ X d 186 37 [v0, v1, v2, v3, v4, v5, v6, v7, v8, v9, v10] [.long x.toInt64] h Q := ex_nx (show mx_at 186 36 = some (.i2l, 1) by decide +kernel) rfl
set_option maxRecDepth 20000 in
theorem i186_37 : ex_ X d 186 37 [v0, v1, v2, v3, v4, v5, v6, v7, v8, v9, v10] [w0] h Q = ex_ X d 186 40 [v0, v1, v2, v3, v4, v5, v6, v7, v8, v9, v10] [.long (-1), w0] h Q := R_ldc2 (show mx_at 186 37 = some (.ldc2_w 185, 3) by decide +kernel) ow186 kl120185
set_option maxRecDepth 20000 in
theorem i186_40 : ex_ X d 186 40 [v0, v1, v2, .int x, v4, v5, v6, v7, v8, v9, v10] [w0, w1] h Q = ex_ X d 186 41 [v0, v1, v2, .int x, v4, v5, v6, v7, v8, v9, v10] [.int x, w0, w1] h Q := ex_nx (show mx_at 186 40 = some (.iload_n 3, 1) by decide +kernel) rfl
set_option maxRecDepth 20000 in
theorem i186_41 : ex_ X d 186 41 [v0, v1, v2, v3, v4, v5, v6, v7, v8, v9, v10] [w0, w1, w2] h Q = ex_ X d 186 42 [v0, v1, v2, v3, v4, v5, v6, v7, v8, v9, v10] [.int 1, w0, w1, w2] h Q := R_iconst (show mx_at 186 41 = some (.iconst 1, 1) by decide +kernel) (by decide)
set_option maxRecDepth 20000 in
theorem i186_42 : ex_ X d 186 42 [v0, v1, v2, v3, v4, v5, v6, v7, v8, v9, v10] [.int y, .int x, w0, w1] h Q = ex_ X d 186 43 [v0, v1, v2, v3, v4, v5, v6, v7, v8, v9, v10] [.int (x - y), w0, w1] h Q := ex_nx (show mx_at 186 42 = some (.isub, 1) by decide +kernel) rfl
set_option maxRecDepth 20000 in
theorem i186_43 : ex_ X d 186 43 [v0, v1, v2, v3, v4, v5, v6, v7, v8, v9, v10] [.int x, w0, w1] h Q = ex_ X d 186 44 [v0, v1, v2, v3, v4, v5, v6, v7, v8, v9, v10] [.long x.toInt64, w0, w1] h Q := ex_nx (show mx_at 186 43 = some (.i2l, 1) by decide +kernel) rfl
set_option maxRecDepth 20000 in
theorem i186_44 : ex_ X (d + 1) 186 44 [v0, v1, v2, v3, v4, v5, v6, v7, v8, v9, v10] [.long j2, .long j1, .long j0] h Q = ev_ X d 124 [.long j0, .long j1, .long j2] h (fun r h' => ex_ X (d + 1) 186 47 [v0, v1, v2, v3, v4, v5, v6, v7, v8, v9, v10] (r.toList ++ []) h' Q) := R_stat (show mx_at 186 44 = some (.invokestatic 54, 3) by decide +kernel) (mx_clk ow186 cc12_54) (Nat.le_of_ble_eq_true rfl) rfl rfl (Nat.le_of_ble_eq_true rfl) ml124 (Nat.le_of_ble_eq_true rfl)
set_option maxRecDepth 20000 in
theorem i186_47 : ex_ X d 186 47 [v0, v1, v2, v3, v4, v5, v6, v7, v8, v9, v10] [.int x] h Q = if ¬ x = 0 then ex_ X d 186 56 [v0, v1, v2, v3, v4, v5, v6, v7, v8, v9, v10] [] h Q else ex_ X d 186 50 [v0, v1, v2, v3, v4, v5, v6, v7, v8, v9, v10] [] h Q := (R_br (show mx_at 186 47 = some (.ifCond .ne 9, 3) by decide +kernel) rfl rfl).trans mx_ite
set_option maxRecDepth 20000 in
theorem i186_50 : ex_ X d 186 50 [.ref a, v1, v2, v3, v4, v5, v6, v7, v8, v9, v10] [] h Q = ex_ X d 186 51 [.ref a, v1, v2, v3, v4, v5, v6, v7, v8, v9, v10] [.ref a] h Q := ex_nx (show mx_at 186 50 = some (.aload_n 0, 1) by decide +kernel) rfl
set_option maxRecDepth 20000 in
theorem i186_51 : ex_ X d 186 51 [v0, v1, v2, v3, v4, v5, v6, v7, v8, v9, v10] [w0] h Q = ex_ X d 186 52 [v0, v1, v2, v3, v4, v5, v6, v7, v8, v9, v10] [.int 1, w0] h Q := R_iconst (show mx_at 186 51 = some (.iconst 1, 1) by decide +kernel) (by decide)
set_option maxRecDepth 20000 in
theorem i186_52 (hc : co_ h a = some 12) : ex_ X (d + 1) 186 52 [v0, v1, v2, v3, v4, v5, v6, v7, v8, v9, v10] [.int x0, .ref a] h Q = ev_ X d 123 [.ref a, .int x0] h (fun r h' => ex_ X (d + 1) 186 55 [v0, v1, v2, v3, v4, v5, v6, v7, v8, v9, v10] (r.toList ++ []) h' Q) := R_vir (show mx_at 186 52 = some (.invokevirtual 131, 3) by decide +kernel) (mx_clk ow186 cc12_131) (Nat.le_of_ble_eq_true rfl) rfl rfl hc rfl (Nat.le_of_ble_eq_true rfl) (Nat.le_of_ble_eq_true rfl) (by rw [ml123]; exact Nat.le_of_ble_eq_true rfl)
set_option maxRecDepth 20000 in
theorem i186_55 : ex_ X d 186 55 [v0, v1, v2, v3, v4, v5, v6, v7, v8, v9, v10] [.int x] h Q = Q (some (.int x)) h := ex_ret (show mx_at 186 55 = some (.ireturn, 1) by decide +kernel) (mx_retI rt186)
set_option maxRecDepth 20000 in
theorem i186_56 : ex_ X d 186 56 [v0, v1, v2, v3, v4, v5, v6, v7, v8, v9, v10] [] h Q = ex_ X d 186 58 [v0, v1, v2, v3, v4, v5, v6, v7, v8, v9, v10] [.int 20] h Q := R_bipush (show mx_at 186 56 = some (.bipush 20, 2) by decide +kernel) (by decide)
set_option maxRecDepth 20000 in
theorem i186_58 : ex_ X d 186 58 [v0, v1, v2, v3, v4, v5, v6, v7, v8, v9, v10] [w0] h Q = ex_ X d 186 60 [v0, v1, v2, v3, v4, v5, v6, v7, v8, v9, v10] [.int 8, w0] h Q := R_bipush (show mx_at 186 58 = some (.bipush 8, 2) by decide +kernel) (by decide)
set_option maxRecDepth 20000 in
theorem i186_60 : ex_ X d 186 60 [v0, .int x, v2, v3, v4, v5, v6, v7, v8, v9, v10] [w0, w1] h Q = ex_ X d 186 61 [v0, .int x, v2, v3, v4, v5, v6, v7, v8, v9, v10] [.int x, w0, w1] h Q := ex_nx (show mx_at 186 60 = some (.iload_n 1, 1) by decide +kernel) rfl
set_option maxRecDepth 20000 in
theorem i186_61 : ex_ X d 186 61 [v0, v1, v2, v3, v4, v5, v6, v7, v8, v9, v10] [.int y, .int x, w0] h Q = ex_ X d 186 62 [v0, v1, v2, v3, v4, v5, v6, v7, v8, v9, v10] [.int (x * y), w0] h Q := ex_nx (show mx_at 186 61 = some (.imul, 1) by decide +kernel) rfl
set_option maxRecDepth 20000 in
theorem i186_62 : ex_ X d 186 62 [v0, v1, v2, v3, v4, v5, v6, v7, v8, v9, v10] [.int y, .int x] h Q = ex_ X d 186 63 [v0, v1, v2, v3, v4, v5, v6, v7, v8, v9, v10] [.int (x + y)] h Q := ex_nx (show mx_at 186 62 = some (.iadd, 1) by decide +kernel) rfl
set_option maxRecDepth 20000 in
theorem i186_63 : ex_ X d 186 63 [v0, v1, v2, v3, v4, v5, v6, v7, v8, v9, v10] [w0] h Q = ex_ X d 186 65 [v0, v1, v2, v3, v4, v5, v6, v7, v8, v9, v10] [.int 6, w0] h Q := R_bipush (show mx_at 186 63 = some (.bipush 6, 2) by decide +kernel) (by decide)
set_option maxRecDepth 20000 in
theorem i186_65 : ex_ X d 186 65 [v0, v1, v2, v3, v4, v5, v6, v7, v8, v9, v10] [.int y, .int x] h Q = ex_ X d 186 66 [v0, v1, v2, v3, v4, v5, v6, v7, v8, v9, v10] [.int (x + y)] h Q := ex_nx (show mx_at 186 65 = some (.iadd, 1) by decide +kernel) rfl
set_option maxRecDepth 20000 in
theorem i186_66 : ex_ X d 186 66 [v0, v1, v2, v3, v4, v5, v6, v7, v8, v9, v10] [.int x] h Q = (mx_nl v4 = true ∧ ex_ X d 186 68 [v0, v1, v2, v3, v4, .int x, v6, v7, v8, v9, v10] [] h Q) := mx_t1 (R_st (ok := mx_isI) (n := 5) (w := 2) (show mx_at 186 66 = some (.istore 5, 2) by decide +kernel) (fun _ _ => rfl) (Nat.le_of_ble_eq_true rfl)) rfl
set_option maxRecDepth 20000 in
theorem i186_68 : ex_ X d 186 68 [v0, v1, v2, v3, v4, v5, v6, v7, v8, v9, v10] [] h Q = ex_ X d 186 69 [v0, v1, v2, v3, v4, v5, v6, v7, v8, v9, v10] [.int 0] h Q := R_iconst (show mx_at 186 68 = some (.iconst 0, 1) by decide +kernel) (by decide)
set_option maxRecDepth 20000 in
theorem i186_69 : ex_ X d 186 69 [v0, v1, v2, v3, v4, v5, v6, v7, v8, v9, v10] [.int x] h Q = (mx_nl v5 = true ∧ ex_ X d 186 71 [v0, v1, v2, v3, v4, v5, .int x, v7, v8, v9, v10] [] h Q) := mx_t1 (R_st (ok := mx_isI) (n := 6) (w := 2) (show mx_at 186 69 = some (.istore 6, 2) by decide +kernel) (fun _ _ => rfl) (Nat.le_of_ble_eq_true rfl)) rfl
set_option maxRecDepth 20000 in
theorem i186_71 : ex_ X d 186 71 [v0, v1, v2, v3, v4, v5, v6, v7, v8, v9, v10] [] h Q = ex_ X d 186 73 [v0, v1, v2, v3, v4, v5, v6, v7, v8, v9, v10] [.int (-100000000)] h Q := R_ldc (show mx_at 186 71 = some (.ldc 255, 2) by decide +kernel) (by decide) ow186 ki120255
set_option maxRecDepth 20000 in
theorem i186_73 : ex_ X d 186 73 [v0, v1, v2, v3, v4, v5, v6, v7, v8, v9, v10] [.int x] h Q = (mx_nl v6 = true ∧ ex_ X d 186 75 [v0, v1, v2, v3, v4, v5, v6, .int x, v8, v9, v10] [] h Q) := mx_t1 (R_st (ok := mx_isI) (n := 7) (w := 2) (show mx_at 186 73 = some (.istore 7, 2) by decide +kernel) (fun _ _ => rfl) (Nat.le_of_ble_eq_true rfl)) rfl
set_option maxRecDepth 20000 in
theorem i186_75 : ex_ X d 186 75 [v0, v1, v2, v3, v4, v5, v6, v7, v8, v9, v10] [] h Q = ex_ X d 186 76 [v0, v1, v2, v3, v4, v5, v6, v7, v8, v9, v10] [.int 0] h Q := R_iconst (show mx_at 186 75 = some (.iconst 0, 1) by decide +kernel) (by decide)
set_option maxRecDepth 20000 in
theorem i186_76 : ex_ X d 186 76 [v0, v1, v2, v3, v4, v5, v6, v7, v8, v9, v10] [.int x] h Q = (mx_nl v7 = true ∧ ex_ X d 186 78 [v0, v1, v2, v3, v4, v5, v6, v7, .int x, v9, v10] [] h Q) := mx_t1 (R_st (ok := mx_isI) (n := 8) (w := 2) (show mx_at 186 76 = some (.istore 8, 2) by decide +kernel) (fun _ _ => rfl) (Nat.le_of_ble_eq_true rfl)) rfl
set_option maxRecDepth 20000 in
theorem i186_78 : ex_ X d 186 78 [v0, v1, v2, v3, v4, v5, v6, v7, .int x, v9, v10] [] h Q = ex_ X d 186 80 [v0, v1, v2, v3, v4, v5, v6, v7, .int x, v9, v10] [.int x] h Q := ex_nx (show mx_at 186 78 = some (.iload 8, 2) by decide +kernel) rfl
set_option maxRecDepth 20000 in
theorem i186_80 : ex_ X d 186 80 [v0, v1, v2, .int x, v4, v5, v6, v7, v8, v9, v10] [w0] h Q = ex_ X d 186 81 [v0, v1, v2, .int x, v4, v5, v6, v7, v8, v9, v10] [.int x, w0] h Q := ex_nx (show mx_at 186 80 = some (.iload_n 3, 1) by decide +kernel) rfl
set_option maxRecDepth 20000 in
theorem i186_81 : ex_ X d 186 81 [v0, v1, v2, v3, v4, v5, v6, v7, v8, v9, v10] [w0, w1] h Q = ex_ X d 186 82 [v0, v1, v2, v3, v4, v5, v6, v7, v8, v9, v10] [.int 2, w0, w1] h Q := R_iconst (show mx_at 186 81 = some (.iconst 2, 1) by decide +kernel) (by decide)
set_option maxRecDepth 20000 in
theorem i186_82 : ex_ X d 186 82 [v0, v1, v2, v3, v4, v5, v6, v7, v8, v9, v10] [.int y, .int x, w0] h Q = if ¬ x = y then ex_ X d 186 90 [v0, v1, v2, v3, v4, v5, v6, v7, v8, v9, v10] [w0] h Q else ex_ X d 186 85 [v0, v1, v2, v3, v4, v5, v6, v7, v8, v9, v10] [w0] h Q := (R_br (show mx_at 186 82 = some (.if_icmp .ne 8, 3) by decide +kernel) rfl rfl).trans mx_ite
set_option maxRecDepth 20000 in
theorem i186_85 : ex_ X d 186 85 [v0, v1, v2, v3, v4, v5, v6, v7, v8, v9, v10] [w0] h Q = ex_ X d 186 87 [v0, v1, v2, v3, v4, v5, v6, v7, v8, v9, v10] [.int 25, w0] h Q := R_bipush (show mx_at 186 85 = some (.bipush 25, 2) by decide +kernel) (by decide)
set_option maxRecDepth 20000 in
theorem i186_87 : ex_ X d 186 87 [v0, v1, v2, v3, v4, v5, v6, v7, v8, v9, v10] [w0, w1] h Q = ex_ X d 186 92 [v0, v1, v2, v3, v4, v5, v6, v7, v8, v9, v10] [w0, w1] h Q := R_to (show mx_at 186 87 = some (.goto 5, 3) by decide +kernel) rfl rfl
set_option maxRecDepth 20000 in
theorem i186_90 : ex_ X d 186 90 [v0, v1, v2, v3, v4, v5, v6, v7, v8, v9, v10] [w0] h Q = ex_ X d 186 92 [v0, v1, v2, v3, v4, v5, v6, v7, v8, v9, v10] [.int 125, w0] h Q := R_bipush (show mx_at 186 90 = some (.bipush 125, 2) by decide +kernel) (by decide)
set_option maxRecDepth 20000 in
theorem i186_92 : ex_ X d 186 92 [v0, v1, v2, v3, v4, v5, v6, v7, v8, v9, v10] [.int y, .int x] h Q = if y ≤ x then ex_ X d 186 232 [v0, v1, v2, v3, v4, v5, v6, v7, v8, v9, v10] [] h Q else ex_ X d 186 95 [v0, v1, v2, v3, v4, v5, v6, v7, v8, v9, v10] [] h Q := (R_br (show mx_at 186 92 = some (.if_icmp .ge 140, 3) by decide +kernel) rfl rfl).trans mx_ite
set_option maxRecDepth 20000 in
theorem i186_95 : ex_ X d 186 95 [.ref a, v1, v2, v3, v4, v5, v6, v7, v8, v9, v10] [] h Q = ex_ X d 186 96 [.ref a, v1, v2, v3, v4, v5, v6, v7, v8, v9, v10] [.ref a] h Q := ex_nx (show mx_at 186 95 = some (.aload_n 0, 1) by decide +kernel) rfl
set_option maxRecDepth 20000 in
theorem i186_96 : ex_ X d 186 96 [v0, v1, v2, v3, v4, v5, v6, v7, v8, v9, v10] [.ref a] h Q = (gk_ h a 0 [(12, 0)] = true ∧ ex_ X d 186 99 [v0, v1, v2, v3, v4, v5, v6, v7, v8, v9, v10] [gv_ h a 0] h Q) := R_getf (show mx_at 186 96 = some (.getfield 7, 3) by decide +kernel) (mx_fdo ow186 fd120007)
set_option maxRecDepth 20000 in
theorem i186_99 : ex_ X d 186 99 [.ref a, v1, v2, v3, v4, v5, v6, v7, v8, v9, v10] [w0] h Q = ex_ X d 186 100 [.ref a, v1, v2, v3, v4, v5, v6, v7, v8, v9, v10] [.ref a, w0] h Q := ex_nx (show mx_at 186 99 = some (.aload_n 0, 1) by decide +kernel) rfl
set_option maxRecDepth 20000 in
theorem i186_100 : ex_ X d 186 100 [v0, v1, v2, v3, v4, v5, v6, v7, v8, v9, v10] [.ref a, w0] h Q = (gk_ h a 1 [(12, 0)] = true ∧ ex_ X d 186 103 [v0, v1, v2, v3, v4, v5, v6, v7, v8, v9, v10] [gv_ h a 1, w0] h Q) := R_getf (show mx_at 186 100 = some (.getfield 13, 3) by decide +kernel) (mx_fdo ow186 fd120013)
set_option maxRecDepth 20000 in
theorem i186_103 : ex_ X (d + 1) 186 103 [v0, v1, v2, v3, v4, v5, v6, v7, v8, v9, v10] [.ref a1, .ref a0] h Q = ev_ X d 126 [.ref a0, .ref a1] h (fun r h' => ex_ X (d + 1) 186 106 [v0, v1, v2, v3, v4, v5, v6, v7, v8, v9, v10] (r.toList ++ []) h' Q) := R_stat (show mx_at 186 103 = some (.invokestatic 242, 3) by decide +kernel) (mx_clk ow186 cc12_242) (Nat.le_of_ble_eq_true rfl) rfl rfl (Nat.le_of_ble_eq_true rfl) ml126 (Nat.le_of_ble_eq_true rfl)
set_option maxRecDepth 20000 in
theorem i186_106 : ex_ X d 186 106 [v0, v1, v2, v3, v4, v5, v6, v7, v8, v9, v10] [] h Q = ex_ X d 186 107 [v0, v1, v2, v3, v4, v5, v6, v7, v8, v9, v10] [.int 0] h Q := R_iconst (show mx_at 186 106 = some (.iconst 0, 1) by decide +kernel) (by decide)
set_option maxRecDepth 20000 in
theorem i186_107 : ex_ X d 186 107 [v0, v1, v2, v3, v4, v5, v6, v7, v8, v9, v10] [.int x] h Q = (mx_nl v8 = true ∧ ex_ X d 186 109 [v0, v1, v2, v3, v4, v5, v6, v7, v8, .int x, v10] [] h Q) := mx_t1 (R_st (ok := mx_isI) (n := 9) (w := 2) (show mx_at 186 107 = some (.istore 9, 2) by decide +kernel) (fun _ _ => rfl) (Nat.le_of_ble_eq_true rfl)) rfl
set_option maxRecDepth 20000 in
theorem i186_109 : ex_ X d 186 109 [v0, v1, v2, v3, v4, v5, v6, v7, v8, .int x, v10] [] h Q = ex_ X d 186 111 [v0, v1, v2, v3, v4, v5, v6, v7, v8, .int x, v10] [.int x] h Q := ex_nx (show mx_at 186 109 = some (.iload 9, 2) by decide +kernel) rfl
set_option maxRecDepth 20000 in
theorem i186_111 : ex_ X d 186 111 [v0, v1, v2, .int x, v4, v5, v6, v7, v8, v9, v10] [w0] h Q = ex_ X d 186 112 [v0, v1, v2, .int x, v4, v5, v6, v7, v8, v9, v10] [.int x, w0] h Q := ex_nx (show mx_at 186 111 = some (.iload_n 3, 1) by decide +kernel) rfl
set_option maxRecDepth 20000 in
theorem i186_112 : ex_ X d 186 112 [v0, v1, v2, v3, v4, v5, v6, v7, v8, v9, v10] [.int y, .int x] h Q = if y ≤ x then ex_ X d 186 183 [v0, v1, v2, v3, v4, v5, v6, v7, v8, v9, v10] [] h Q else ex_ X d 186 115 [v0, v1, v2, v3, v4, v5, v6, v7, v8, v9, v10] [] h Q := (R_br (show mx_at 186 112 = some (.if_icmp .ge 71, 3) by decide +kernel) rfl rfl).trans mx_ite
set_option maxRecDepth 20000 in
theorem i186_115 : ex_ X d 186 115 [.ref a, v1, v2, v3, v4, v5, v6, v7, v8, v9, v10] [] h Q = ex_ X d 186 116 [.ref a, v1, v2, v3, v4, v5, v6, v7, v8, v9, v10] [.ref a] h Q := ex_nx (show mx_at 186 115 = some (.aload_n 0, 1) by decide +kernel) rfl
set_option maxRecDepth 20000 in
theorem i186_116 : ex_ X d 186 116 [v0, v1, v2, v3, v4, v5, v6, v7, v8, v9, v10] [.ref a] h Q = (gk_ h a 1 [(12, 0)] = true ∧ ex_ X d 186 119 [v0, v1, v2, v3, v4, v5, v6, v7, v8, v9, v10] [gv_ h a 1] h Q) := R_getf (show mx_at 186 116 = some (.getfield 13, 3) by decide +kernel) (mx_fdo ow186 fd120013)
set_option maxRecDepth 20000 in
theorem i186_119 : ex_ X d 186 119 [v0, v1, v2, v3, v4, .int x, v6, v7, v8, v9, v10] [w0] h Q = ex_ X d 186 121 [v0, v1, v2, v3, v4, .int x, v6, v7, v8, v9, v10] [.int x, w0] h Q := ex_nx (show mx_at 186 119 = some (.iload 5, 2) by decide +kernel) rfl
set_option maxRecDepth 20000 in
theorem i186_121 : ex_ X d 186 121 [v0, v1, v2, v3, v4, v5, v6, v7, v8, v9, v10] [.int i, .ref a] h Q = (ik_ h a i = true ∧ ex_ X d 186 122 [v0, v1, v2, v3, v4, v5, v6, v7, v8, v9, v10] [.int (ia_ h a i)] h Q) := R_iald (show mx_at 186 121 = some (.iaload, 1) by decide +kernel)
set_option maxRecDepth 20000 in
theorem i186_122 : ex_ X d 186 122 [v0, v1, v2, v3, v4, v5, v6, v7, .int x, v9, v10] [w0] h Q = ex_ X d 186 124 [v0, v1, v2, v3, v4, v5, v6, v7, .int x, v9, v10] [.int x, w0] h Q := ex_nx (show mx_at 186 122 = some (.iload 8, 2) by decide +kernel) rfl
set_option maxRecDepth 20000 in
theorem i186_124 : ex_ X d 186 124 [v0, v1, v2, .int x, v4, v5, v6, v7, v8, v9, v10] [w0, w1] h Q = ex_ X d 186 125 [v0, v1, v2, .int x, v4, v5, v6, v7, v8, v9, v10] [.int x, w0, w1] h Q := ex_nx (show mx_at 186 124 = some (.iload_n 3, 1) by decide +kernel) rfl
set_option maxRecDepth 20000 in
theorem i186_125 : ex_ X d 186 125 [v0, v1, v2, v3, v4, v5, v6, v7, v8, v9, v10] [w0, w1, w2] h Q = ex_ X d 186 126 [v0, v1, v2, v3, v4, v5, v6, v7, v8, v9, v10] [.int 1, w0, w1, w2] h Q := R_iconst (show mx_at 186 125 = some (.iconst 1, 1) by decide +kernel) (by decide)
set_option maxRecDepth 20000 in
theorem i186_126 : ex_ X d 186 126 [v0, v1, v2, v3, v4, v5, v6, v7, v8, v9, v10] [.int y, .int x, w0, w1] h Q = ex_ X d 186 127 [v0, v1, v2, v3, v4, v5, v6, v7, v8, v9, v10] [.int (x - y), w0, w1] h Q := ex_nx (show mx_at 186 126 = some (.isub, 1) by decide +kernel) rfl
set_option maxRecDepth 20000 in
theorem i186_127 : ex_ X d 186 127 [v0, v1, v2, v3, v4, v5, v6, v7, v8, .int x, v10] [w0, w1, w2] h Q = ex_ X d 186 129 [v0, v1, v2, v3, v4, v5, v6, v7, v8, .int x, v10] [.int x, w0, w1, w2] h Q := ex_nx (show mx_at 186 127 = some (.iload 9, 2) by decide +kernel) rfl
set_option maxRecDepth 20000 in
theorem i186_129 : ex_ X d 186 129 [v0, v1, v2, v3, v4, v5, v6, v7, v8, v9, v10] [.int y, .int x, w0, w1] h Q = ex_ X d 186 130 [v0, v1, v2, v3, v4, v5, v6, v7, v8, v9, v10] [.int (x - y), w0, w1] h Q := ex_nx (show mx_at 186 129 = some (.isub, 1) by decide +kernel) rfl
set_option maxRecDepth 20000 in
theorem i186_130 : ex_ X (d + 1) 186 130 [v0, v1, v2, v3, v4, v5, v6, v7, v8, v9, v10] [.int x1, .int x0, w0] h Q = ev_ X d 185 [.int x0, .int x1] h (fun r h' => ex_ X (d + 1) 186 133 [v0, v1, v2, v3, v4, v5, v6, v7, v8, v9, v10] (r.toList ++ [w0]) h' Q) := R_stat (show mx_at 186 130 = some (.invokestatic 258, 3) by decide +kernel) (mx_clk ow186 cc12_258) (Nat.le_of_ble_eq_true rfl) rfl rfl (Nat.le_of_ble_eq_true rfl) ml185 (Nat.le_of_ble_eq_true rfl)
set_option maxRecDepth 20000 in
theorem i186_133 : ex_ X d 186 133 [v0, v1, v2, v3, v4, v5, v6, v7, v8, v9, v10] [.int y, .int x] h Q = ex_ X d 186 134 [v0, v1, v2, v3, v4, v5, v6, v7, v8, v9, v10] [.int (x - y)] h Q := ex_nx (show mx_at 186 133 = some (.isub, 1) by decide +kernel) rfl
set_option maxRecDepth 20000 in
theorem i186_134 : ex_ X d 186 134 [v0, v1, v2, v3, v4, v5, v6, v7, v8, v9, v10] [.int x] h Q = (mx_nl v9 = true ∧ ex_ X d 186 136 [v0, v1, v2, v3, v4, v5, v6, v7, v8, v9, .int x] [] h Q) := mx_t1 (R_st (ok := mx_isI) (n := 10) (w := 2) (show mx_at 186 134 = some (.istore 10, 2) by decide +kernel) (fun _ _ => rfl) (Nat.le_of_ble_eq_true rfl)) rfl
set_option maxRecDepth 20000 in
theorem i186_136 : ex_ X d 186 136 [.ref a, v1, v2, v3, v4, v5, v6, v7, v8, v9, v10] [] h Q = ex_ X d 186 137 [.ref a, v1, v2, v3, v4, v5, v6, v7, v8, v9, v10] [.ref a] h Q := ex_nx (show mx_at 186 136 = some (.aload_n 0, 1) by decide +kernel) rfl
set_option maxRecDepth 20000 in
theorem i186_137 : ex_ X d 186 137 [v0, v1, v2, v3, v4, v5, v6, v7, v8, v9, v10] [.ref a] h Q = (gk_ h a 1 [(12, 0)] = true ∧ ex_ X d 186 140 [v0, v1, v2, v3, v4, v5, v6, v7, v8, v9, v10] [gv_ h a 1] h Q) := R_getf (show mx_at 186 137 = some (.getfield 13, 3) by decide +kernel) (mx_fdo ow186 fd120013)
set_option maxRecDepth 20000 in
theorem i186_140 : ex_ X d 186 140 [v0, v1, v2, v3, v4, .int x, v6, v7, v8, v9, v10] [w0] h Q = ex_ X d 186 142 [v0, v1, v2, v3, v4, .int x, v6, v7, v8, v9, v10] [.int x, w0] h Q := ex_nx (show mx_at 186 140 = some (.iload 5, 2) by decide +kernel) rfl
set_option maxRecDepth 20000 in
theorem i186_142 : ex_ X d 186 142 [.ref a, v1, v2, v3, v4, v5, v6, v7, v8, v9, v10] [w0, w1] h Q = ex_ X d 186 143 [.ref a, v1, v2, v3, v4, v5, v6, v7, v8, v9, v10] [.ref a, w0, w1] h Q := ex_nx (show mx_at 186 142 = some (.aload_n 0, 1) by decide +kernel) rfl
set_option maxRecDepth 20000 in
theorem i186_143 : ex_ X d 186 143 [v0, v1, v2, v3, v4, v5, v6, v7, v8, v9, v10] [.ref a, w0, w1] h Q = (gk_ h a 1 [(12, 0)] = true ∧ ex_ X d 186 146 [v0, v1, v2, v3, v4, v5, v6, v7, v8, v9, v10] [gv_ h a 1, w0, w1] h Q) := R_getf (show mx_at 186 143 = some (.getfield 13, 3) by decide +kernel) (mx_fdo ow186 fd120013)
set_option maxRecDepth 20000 in
theorem i186_146 : ex_ X d 186 146 [v0, v1, v2, v3, v4, .int x, v6, v7, v8, v9, v10] [w0, w1, w2] h Q = ex_ X d 186 148 [v0, v1, v2, v3, v4, .int x, v6, v7, v8, v9, v10] [.int x, w0, w1, w2] h Q := ex_nx (show mx_at 186 146 = some (.iload 5, 2) by decide +kernel) rfl
set_option maxRecDepth 20000 in
theorem i186_148 : ex_ X d 186 148 [v0, v1, v2, v3, v4, v5, v6, v7, v8, v9, v10] [.int i, .ref a, w0, w1] h Q = (ik_ h a i = true ∧ ex_ X d 186 149 [v0, v1, v2, v3, v4, v5, v6, v7, v8, v9, v10] [.int (ia_ h a i), w0, w1] h Q) := R_iald (show mx_at 186 148 = some (.iaload, 1) by decide +kernel)
set_option maxRecDepth 20000 in
theorem i186_149 : ex_ X d 186 149 [v0, v1, v2, v3, v4, v5, v6, v7, v8, v9, v10] [.int x, w0, w1] h Q = if 0 ≤ x then ex_ X d 186 156 [v0, v1, v2, v3, v4, v5, v6, v7, v8, v9, v10] [w0, w1] h Q else ex_ X d 186 152 [v0, v1, v2, v3, v4, v5, v6, v7, v8, v9, v10] [w0, w1] h Q := (R_br (show mx_at 186 149 = some (.ifCond .ge 7, 3) by decide +kernel) rfl rfl).trans mx_ite
set_option maxRecDepth 20000 in
theorem i186_152 : ex_ X d 186 152 [v0, v1, v2, v3, v4, v5, v6, v7, v8, v9, v10] [w0, w1] h Q = ex_ X d 186 153 [v0, v1, v2, v3, v4, v5, v6, v7, v8, v9, v10] [.int (-1), w0, w1] h Q := R_iconst (show mx_at 186 152 = some (.iconst (-1), 1) by decide +kernel) (by decide)
set_option maxRecDepth 20000 in
theorem i186_153 : ex_ X d 186 153 [v0, v1, v2, v3, v4, v5, v6, v7, v8, v9, v10] [w0, w1, w2] h Q = ex_ X d 186 167 [v0, v1, v2, v3, v4, v5, v6, v7, v8, v9, v10] [w0, w1, w2] h Q := R_to (show mx_at 186 153 = some (.goto 14, 3) by decide +kernel) rfl rfl
set_option maxRecDepth 20000 in
theorem i186_156 : ex_ X d 186 156 [v0, v1, v2, v3, v4, v5, v6, v7, v8, v9, .int x] [w0, w1] h Q = ex_ X d 186 158 [v0, v1, v2, v3, v4, v5, v6, v7, v8, v9, .int x] [.int x, w0, w1] h Q := ex_nx (show mx_at 186 156 = some (.iload 10, 2) by decide +kernel) rfl
set_option maxRecDepth 20000 in
theorem i186_158 : ex_ X d 186 158 [v0, v1, v2, v3, v4, v5, v6, v7, v8, v9, v10] [.int x, w0, w1] h Q = if 0 ≤ x then ex_ X d 186 165 [v0, v1, v2, v3, v4, v5, v6, v7, v8, v9, v10] [w0, w1] h Q else ex_ X d 186 161 [v0, v1, v2, v3, v4, v5, v6, v7, v8, v9, v10] [w0, w1] h Q := (R_br (show mx_at 186 158 = some (.ifCond .ge 7, 3) by decide +kernel) rfl rfl).trans mx_ite
set_option maxRecDepth 20000 in
theorem i186_161 : ex_ X d 186 161 [v0, v1, v2, v3, v4, v5, v6, v7, v8, v9, v10] [w0, w1] h Q = ex_ X d 186 162 [v0, v1, v2, v3, v4, v5, v6, v7, v8, v9, v10] [.int 0, w0, w1] h Q := R_iconst (show mx_at 186 161 = some (.iconst 0, 1) by decide +kernel) (by decide)
set_option maxRecDepth 20000 in
theorem i186_162 : ex_ X d 186 162 [v0, v1, v2, v3, v4, v5, v6, v7, v8, v9, v10] [w0, w1, w2] h Q = ex_ X d 186 167 [v0, v1, v2, v3, v4, v5, v6, v7, v8, v9, v10] [w0, w1, w2] h Q := R_to (show mx_at 186 162 = some (.goto 5, 3) by decide +kernel) rfl rfl
set_option maxRecDepth 20000 in
theorem i186_165 : ex_ X d 186 165 [v0, v1, v2, v3, v4, v5, v6, v7, v8, v9, .int x] [w0, w1] h Q = ex_ X d 186 167 [v0, v1, v2, v3, v4, v5, v6, v7, v8, v9, .int x] [.int x, w0, w1] h Q := ex_nx (show mx_at 186 165 = some (.iload 10, 2) by decide +kernel) rfl
set_option maxRecDepth 20000 in
theorem i186_167 : ex_ X d 186 167 [v0, v1, v2, v3, v4, v5, v6, v7, v8, v9, v10] [.int x, .int i, .ref a] h Q = (ik_ h a i = true ∧ ex_ X d 186 168 [v0, v1, v2, v3, v4, v5, v6, v7, v8, v9, v10] [] (is_ h a i x) Q) := R_iast (show mx_at 186 167 = some (.iastore, 1) by decide +kernel)
set_option maxRecDepth 20000 in
theorem i186_168 : ex_ X d 186 168 [.ref a, v1, v2, v3, v4, v5, v6, v7, v8, v9, v10] [] h Q = ex_ X d 186 169 [.ref a, v1, v2, v3, v4, v5, v6, v7, v8, v9, v10] [.ref a] h Q := ex_nx (show mx_at 186 168 = some (.aload_n 0, 1) by decide +kernel) rfl
set_option maxRecDepth 20000 in
theorem i186_169 : ex_ X d 186 169 [.ref a, v1, v2, v3, v4, v5, v6, v7, v8, v9, v10] [w0] h Q = ex_ X d 186 170 [.ref a, v1, v2, v3, v4, v5, v6, v7, v8, v9, v10] [.ref a, w0] h Q := ex_nx (show mx_at 186 169 = some (.aload_n 0, 1) by decide +kernel) rfl
set_option maxRecDepth 20000 in
theorem i186_170 : ex_ X d 186 170 [v0, v1, v2, v3, v4, v5, v6, v7, v8, v9, v10] [.ref a, w0] h Q = (gk_ h a 1 [(12, 0)] = true ∧ ex_ X d 186 173 [v0, v1, v2, v3, v4, v5, v6, v7, v8, v9, v10] [gv_ h a 1, w0] h Q) := R_getf (show mx_at 186 170 = some (.getfield 13, 3) by decide +kernel) (mx_fdo ow186 fd120013)
set_option maxRecDepth 20000 in
theorem i186_173 : ex_ X d 186 173 [v0, v1, .int x, v3, v4, v5, v6, v7, v8, v9, v10] [w0, w1] h Q = ex_ X d 186 174 [v0, v1, .int x, v3, v4, v5, v6, v7, v8, v9, v10] [.int x, w0, w1] h Q := ex_nx (show mx_at 186 173 = some (.iload_n 2, 1) by decide +kernel) rfl
set_option maxRecDepth 20000 in
theorem i186_174 (hc : co_ h a = some 12) : ex_ X (d + 1) 186 174 [v0, v1, v2, v3, v4, v5, v6, v7, v8, v9, v10] [.int x1, .ref a0, .ref a] h Q = ev_ X d 171 [.ref a, .ref a0, .int x1] h (fun r h' => ex_ X (d + 1) 186 177 [v0, v1, v2, v3, v4, v5, v6, v7, v8, v9, v10] (r.toList ++ []) h' Q) := R_vir (show mx_at 186 174 = some (.invokevirtual 238, 3) by decide +kernel) (mx_clk ow186 cc12_238) (Nat.le_of_ble_eq_true rfl) rfl rfl hc rfl (Nat.le_of_ble_eq_true rfl) (Nat.le_of_ble_eq_true rfl) (by rw [ml171]; exact Nat.le_of_ble_eq_true rfl)
set_option maxRecDepth 20000 in
theorem i186_177 : ex_ X d 186 177 [v0, v1, v2, v3, v4, v5, v6, v7, v8, .int x, v10] [] h Q = (mx_nl v8 = true ∧ ex_ X d 186 180 [v0, v1, v2, v3, v4, v5, v6, v7, v8, .int (x + 1), v10] [] h Q) := R_iinc (n := 9) (c := 1) (show mx_at 186 177 = some (.iinc 9 1, 3) by decide +kernel) rfl
set_option maxRecDepth 20000 in
theorem i186_180 : ex_ X d 186 180 [v0, v1, v2, v3, v4, v5, v6, v7, v8, v9, v10] [] h Q = ex_ X d 186 109 [v0, v1, v2, v3, v4, v5, v6, v7, v8, v9, v10] [] h Q := R_to (show mx_at 186 180 = some (.goto (-71), 3) by decide +kernel) rfl rfl
set_option maxRecDepth 20000 in
theorem i186_183 : ex_ X d 186 183 [.ref a, v1, v2, v3, v4, v5, v6, v7, v8, v9, v10] [] h Q = ex_ X d 186 184 [.ref a, v1, v2, v3, v4, v5, v6, v7, v8, v9, v10] [.ref a] h Q := ex_nx (show mx_at 186 183 = some (.aload_n 0, 1) by decide +kernel) rfl
set_option maxRecDepth 20000 in
theorem i186_184 : ex_ X d 186 184 [v0, v1, v2, v3, v4, v5, v6, v7, v8, v9, v10] [.ref a] h Q = (gk_ h a 1 [(12, 0)] = true ∧ ex_ X d 186 187 [v0, v1, v2, v3, v4, v5, v6, v7, v8, v9, v10] [gv_ h a 1] h Q) := R_getf (show mx_at 186 184 = some (.getfield 13, 3) by decide +kernel) (mx_fdo ow186 fd120013)
set_option maxRecDepth 20000 in
theorem i186_187 : ex_ X d 186 187 [v0, .int x, v2, v3, v4, v5, v6, v7, v8, v9, v10] [w0] h Q = ex_ X d 186 188 [v0, .int x, v2, v3, v4, v5, v6, v7, v8, v9, v10] [.int x, w0] h Q := ex_nx (show mx_at 186 187 = some (.iload_n 1, 1) by decide +kernel) rfl
set_option maxRecDepth 20000 in
theorem i186_188 : ex_ X d 186 188 [v0, v1, v2, v3, v4, v5, v6, v7, v8, v9, v10] [w0, w1] h Q = ex_ X d 186 189 [v0, v1, v2, v3, v4, v5, v6, v7, v8, v9, v10] [.int 5, w0, w1] h Q := R_iconst (show mx_at 186 188 = some (.iconst 5, 1) by decide +kernel) (by decide)
set_option maxRecDepth 20000 in
theorem i186_189 : ex_ X (d + 1) 186 189 [v0, v1, v2, v3, v4, v5, v6, v7, v8, v9, v10] [.int x2, .int x1, .ref a0] h Q = ev_ X d 129 [.ref a0, .int x1, .int x2] h (fun r h' => ex_ X (d + 1) 186 192 [v0, v1, v2, v3, v4, v5, v6, v7, v8, v9, v10] (r.toList ++ []) h' Q) := R_stat (show mx_at 186 189 = some (.invokestatic 154, 3) by decide +kernel) (mx_clk ow186 cc12_154) (Nat.le_of_ble_eq_true rfl) rfl rfl (Nat.le_of_ble_eq_true rfl) ml129 (Nat.le_of_ble_eq_true rfl)
set_option maxRecDepth 20000 in
theorem i186_192 : ex_ X d 186 192 [v0, v1, v2, v3, v4, v5, v6, v7, v8, v9, v10] [.int x] h Q = (mx_nl v8 = true ∧ ex_ X d 186 194 [v0, v1, v2, v3, v4, v5, v6, v7, v8, .int x, v10] [] h Q) := mx_t1 (R_st (ok := mx_isI) (n := 9) (w := 2) (show mx_at 186 192 = some (.istore 9, 2) by decide +kernel) (fun _ _ => rfl) (Nat.le_of_ble_eq_true rfl)) rfl
set_option maxRecDepth 20000 in
theorem i186_194 : ex_ X d 186 194 [v0, v1, v2, v3, v4, v5, v6, v7, v8, .int x, v10] [] h Q = ex_ X d 186 196 [v0, v1, v2, v3, v4, v5, v6, v7, v8, .int x, v10] [.int x] h Q := ex_nx (show mx_at 186 194 = some (.iload 9, 2) by decide +kernel) rfl
set_option maxRecDepth 20000 in
theorem i186_196 : ex_ X d 186 196 [v0, v1, v2, v3, v4, v5, v6, .int x, v8, v9, v10] [w0] h Q = ex_ X d 186 198 [v0, v1, v2, v3, v4, v5, v6, .int x, v8, v9, v10] [.int x, w0] h Q := ex_nx (show mx_at 186 196 = some (.iload 7, 2) by decide +kernel) rfl
set_option maxRecDepth 20000 in
theorem i186_198 : ex_ X d 186 198 [v0, v1, v2, v3, v4, v5, v6, v7, v8, v9, v10] [.int y, .int x] h Q = if x ≤ y then ex_ X d 186 206 [v0, v1, v2, v3, v4, v5, v6, v7, v8, v9, v10] [] h Q else ex_ X d 186 201 [v0, v1, v2, v3, v4, v5, v6, v7, v8, v9, v10] [] h Q := (R_br (show mx_at 186 198 = some (.if_icmp .le 8, 3) by decide +kernel) rfl rfl).trans mx_ite
set_option maxRecDepth 20000 in
theorem i186_201 : ex_ X d 186 201 [v0, v1, v2, v3, v4, v5, v6, v7, .int x, v9, v10] [] h Q = ex_ X d 186 203 [v0, v1, v2, v3, v4, v5, v6, v7, .int x, v9, v10] [.int x] h Q := ex_nx (show mx_at 186 201 = some (.iload 8, 2) by decide +kernel) rfl
set_option maxRecDepth 20000 in
theorem i186_203 : ex_ X d 186 203 [v0, v1, v2, v3, v4, v5, v6, v7, v8, v9, v10] [w0] h Q = ex_ X d 186 208 [v0, v1, v2, v3, v4, v5, v6, v7, v8, v9, v10] [w0] h Q := R_to (show mx_at 186 203 = some (.goto 5, 3) by decide +kernel) rfl rfl
set_option maxRecDepth 20000 in
theorem i186_206 : ex_ X d 186 206 [v0, v1, v2, v3, v4, v5, .int x, v7, v8, v9, v10] [] h Q = ex_ X d 186 208 [v0, v1, v2, v3, v4, v5, .int x, v7, v8, v9, v10] [.int x] h Q := ex_nx (show mx_at 186 206 = some (.iload 6, 2) by decide +kernel) rfl
set_option maxRecDepth 20000 in
theorem i186_208 : ex_ X d 186 208 [v0, v1, v2, v3, v4, v5, v6, v7, v8, v9, v10] [.int x] h Q = (mx_nl v5 = true ∧ ex_ X d 186 210 [v0, v1, v2, v3, v4, v5, .int x, v7, v8, v9, v10] [] h Q) := mx_t1 (R_st (ok := mx_isI) (n := 6) (w := 2) (show mx_at 186 208 = some (.istore 6, 2) by decide +kernel) (fun _ _ => rfl) (Nat.le_of_ble_eq_true rfl)) rfl
set_option maxRecDepth 20000 in
theorem i186_210 : ex_ X d 186 210 [v0, v1, v2, v3, v4, v5, v6, v7, v8, .int x, v10] [] h Q = ex_ X d 186 212 [v0, v1, v2, v3, v4, v5, v6, v7, v8, .int x, v10] [.int x] h Q := ex_nx (show mx_at 186 210 = some (.iload 9, 2) by decide +kernel) rfl
set_option maxRecDepth 20000 in
theorem i186_212 : ex_ X d 186 212 [v0, v1, v2, v3, v4, v5, v6, .int x, v8, v9, v10] [w0] h Q = ex_ X d 186 214 [v0, v1, v2, v3, v4, v5, v6, .int x, v8, v9, v10] [.int x, w0] h Q := ex_nx (show mx_at 186 212 = some (.iload 7, 2) by decide +kernel) rfl
set_option maxRecDepth 20000 in
theorem i186_214 : ex_ X d 186 214 [v0, v1, v2, v3, v4, v5, v6, v7, v8, v9, v10] [.int y, .int x] h Q = if x ≤ y then ex_ X d 186 222 [v0, v1, v2, v3, v4, v5, v6, v7, v8, v9, v10] [] h Q else ex_ X d 186 217 [v0, v1, v2, v3, v4, v5, v6, v7, v8, v9, v10] [] h Q := (R_br (show mx_at 186 214 = some (.if_icmp .le 8, 3) by decide +kernel) rfl rfl).trans mx_ite
set_option maxRecDepth 20000 in
theorem i186_217 : ex_ X d 186 217 [v0, v1, v2, v3, v4, v5, v6, v7, v8, .int x, v10] [] h Q = ex_ X d 186 219 [v0, v1, v2, v3, v4, v5, v6, v7, v8, .int x, v10] [.int x] h Q := ex_nx (show mx_at 186 217 = some (.iload 9, 2) by decide +kernel) rfl
set_option maxRecDepth 20000 in
theorem i186_219 : ex_ X d 186 219 [v0, v1, v2, v3, v4, v5, v6, v7, v8, v9, v10] [w0] h Q = ex_ X d 186 224 [v0, v1, v2, v3, v4, v5, v6, v7, v8, v9, v10] [w0] h Q := R_to (show mx_at 186 219 = some (.goto 5, 3) by decide +kernel) rfl rfl
set_option maxRecDepth 20000 in
theorem i186_222 : ex_ X d 186 222 [v0, v1, v2, v3, v4, v5, v6, .int x, v8, v9, v10] [] h Q = ex_ X d 186 224 [v0, v1, v2, v3, v4, v5, v6, .int x, v8, v9, v10] [.int x] h Q := ex_nx (show mx_at 186 222 = some (.iload 7, 2) by decide +kernel) rfl
set_option maxRecDepth 20000 in
theorem i186_224 : ex_ X d 186 224 [v0, v1, v2, v3, v4, v5, v6, v7, v8, v9, v10] [.int x] h Q = (mx_nl v6 = true ∧ ex_ X d 186 226 [v0, v1, v2, v3, v4, v5, v6, .int x, v8, v9, v10] [] h Q) := mx_t1 (R_st (ok := mx_isI) (n := 7) (w := 2) (show mx_at 186 224 = some (.istore 7, 2) by decide +kernel) (fun _ _ => rfl) (Nat.le_of_ble_eq_true rfl)) rfl
set_option maxRecDepth 20000 in
theorem i186_226 : ex_ X d 186 226 [v0, v1, v2, v3, v4, v5, v6, v7, .int x, v9, v10] [] h Q = (mx_nl v7 = true ∧ ex_ X d 186 229 [v0, v1, v2, v3, v4, v5, v6, v7, .int (x + 1), v9, v10] [] h Q) := R_iinc (n := 8) (c := 1) (show mx_at 186 226 = some (.iinc 8 1, 3) by decide +kernel) rfl
set_option maxRecDepth 20000 in
theorem i186_229 : ex_ X d 186 229 [v0, v1, v2, v3, v4, v5, v6, v7, v8, v9, v10] [] h Q = ex_ X d 186 78 [v0, v1, v2, v3, v4, v5, v6, v7, v8, v9, v10] [] h Q := R_to (show mx_at 186 229 = some (.goto (-151), 3) by decide +kernel) rfl rfl
set_option maxRecDepth 20000 in
theorem i186_232 : ex_ X d 186 232 [v0, v1, v2, v3, .int x, v5, v6, v7, v8, v9, v10] [] h Q = ex_ X d 186 234 [v0, v1, v2, v3, .int x, v5, v6, v7, v8, v9, v10] [.int x] h Q := ex_nx (show mx_at 186 232 = some (.iload 4, 2) by decide +kernel) rfl
set_option maxRecDepth 20000 in
theorem i186_234 : ex_ X d 186 234 [v0, v1, v2, v3, v4, v5, v6, v7, v8, v9, v10] [w0] h Q = ex_ X d 186 235 [v0, v1, v2, v3, v4, v5, v6, v7, v8, v9, v10] [.int (-1), w0] h Q := R_iconst (show mx_at 186 234 = some (.iconst (-1), 1) by decide +kernel) (by decide)
set_option maxRecDepth 20000 in
theorem i186_235 : ex_ X d 186 235 [v0, v1, v2, v3, v4, v5, v6, v7, v8, v9, v10] [.int y, .int x] h Q = if ¬ x = y then ex_ X d 186 243 [v0, v1, v2, v3, v4, v5, v6, v7, v8, v9, v10] [] h Q else ex_ X d 186 238 [v0, v1, v2, v3, v4, v5, v6, v7, v8, v9, v10] [] h Q := (R_br (show mx_at 186 235 = some (.if_icmp .ne 8, 3) by decide +kernel) rfl rfl).trans mx_ite
set_option maxRecDepth 20000 in
theorem i186_238 : ex_ X d 186 238 [v0, v1, v2, v3, v4, v5, v6, .int x, v8, v9, v10] [] h Q = ex_ X d 186 240 [v0, v1, v2, v3, v4, v5, v6, .int x, v8, v9, v10] [.int x] h Q := ex_nx (show mx_at 186 238 = some (.iload 7, 2) by decide +kernel) rfl
set_option maxRecDepth 20000 in
theorem i186_240 : ex_ X d 186 240 [v0, v1, v2, v3, v4, v5, v6, v7, v8, v9, v10] [w0] h Q = ex_ X d 186 254 [v0, v1, v2, v3, v4, v5, v6, v7, v8, v9, v10] [w0] h Q := R_to (show mx_at 186 240 = some (.goto 14, 3) by decide +kernel) rfl rfl
set_option maxRecDepth 20000 in
theorem i186_243 : ex_ X d 186 243 [v0, v1, v2, v3, v4, v5, .int x, v7, v8, v9, v10] [] h Q = ex_ X d 186 245 [v0, v1, v2, v3, v4, v5, .int x, v7, v8, v9, v10] [.int x] h Q := ex_nx (show mx_at 186 243 = some (.iload 6, 2) by decide +kernel) rfl
set_option maxRecDepth 20000 in
theorem i186_245 : ex_ X d 186 245 [v0, v1, v2, .int x, v4, v5, v6, v7, v8, v9, v10] [w0] h Q = ex_ X d 186 246 [v0, v1, v2, .int x, v4, v5, v6, v7, v8, v9, v10] [.int x, w0] h Q := ex_nx (show mx_at 186 245 = some (.iload_n 3, 1) by decide +kernel) rfl
set_option maxRecDepth 20000 in
theorem i186_246 : ex_ X d 186 246 [v0, v1, v2, v3, v4, v5, v6, v7, v8, v9, v10] [w0, w1] h Q = ex_ X d 186 247 [v0, v1, v2, v3, v4, v5, v6, v7, v8, v9, v10] [.int 1, w0, w1] h Q := R_iconst (show mx_at 186 246 = some (.iconst 1, 1) by decide +kernel) (by decide)
set_option maxRecDepth 20000 in
theorem i186_247 : ex_ X d 186 247 [v0, v1, v2, v3, v4, v5, v6, v7, v8, v9, v10] [.int y, .int x, w0] h Q = ex_ X d 186 248 [v0, v1, v2, v3, v4, v5, v6, v7, v8, v9, v10] [.int (x - y), w0] h Q := ex_nx (show mx_at 186 247 = some (.isub, 1) by decide +kernel) rfl
set_option maxRecDepth 20000 in
theorem i186_248 : ex_ X d 186 248 [v0, v1, v2, v3, .int x, v5, v6, v7, v8, v9, v10] [w0, w1] h Q = ex_ X d 186 250 [v0, v1, v2, v3, .int x, v5, v6, v7, v8, v9, v10] [.int x, w0, w1] h Q := ex_nx (show mx_at 186 248 = some (.iload 4, 2) by decide +kernel) rfl
set_option maxRecDepth 20000 in
theorem i186_250 : ex_ X d 186 250 [v0, v1, v2, v3, v4, v5, v6, v7, v8, v9, v10] [.int y, .int x, w0] h Q = ex_ X d 186 251 [v0, v1, v2, v3, v4, v5, v6, v7, v8, v9, v10] [.int (x - y), w0] h Q := ex_nx (show mx_at 186 250 = some (.isub, 1) by decide +kernel) rfl
set_option maxRecDepth 20000 in
theorem i186_251 : ex_ X (d + 1) 186 251 [v0, v1, v2, v3, v4, v5, v6, v7, v8, v9, v10] [.int x1, .int x0] h Q = ev_ X d 185 [.int x0, .int x1] h (fun r h' => ex_ X (d + 1) 186 254 [v0, v1, v2, v3, v4, v5, v6, v7, v8, v9, v10] (r.toList ++ []) h' Q) := R_stat (show mx_at 186 251 = some (.invokestatic 258, 3) by decide +kernel) (mx_clk ow186 cc12_258) (Nat.le_of_ble_eq_true rfl) rfl rfl (Nat.le_of_ble_eq_true rfl) ml185 (Nat.le_of_ble_eq_true rfl)
set_option maxRecDepth 20000 in
theorem i186_254 : ex_ X d 186 254 [v0, v1, v2, v3, v4, v5, v6, v7, v8, v9, v10] [.int x] h Q = Q (some (.int x)) h := ex_ret (show mx_at 186 254 = some (.ireturn, 1) by decide +kernel) (mx_retI rt186)
theorem i186_e : ev_ X d 186 [.ref a, .int x0, .int x1, .int x2, .int x3] h Q = ex_ X d 186 0 [.ref a, .int x0, .int x1, .int x2, .int x3, .double 0, .double 0, .double 0, .double 0, .double 0, .double 0] [] h Q := by rw [ev_, ml186]; rfl
-- 187 X12_first
set_option maxRecDepth 20000 in
theorem i187_0 : ex_ X d 187 0 [.ref a, v1, v2] [] h Q = ex_ X d 187 1 [.ref a, v1, v2] [.ref a] h Q := ex_nx (show mx_at 187 0 = some (.aload_n 0, 1) by decide +kernel) rfl
set_option maxRecDepth 20000 in
theorem i187_1 : ex_ X d 187 1 [v0, .int x, v2] [w0] h Q = ex_ X d 187 2 [v0, .int x, v2] [.int x, w0] h Q := ex_nx (show mx_at 187 1 = some (.iload_n 1, 1) by decide +kernel) rfl
set_option maxRecDepth 20000 in
theorem i187_2 (hc : co_ h a = some 12) : ex_ X (d + 1) 187 2 [v0, v1, v2] [.int x0, .ref a] h Q = ev_ X d 128 [.ref a, .int x0] h (fun r h' => ex_ X (d + 1) 187 5 [v0, v1, v2] (r.toList ++ []) h' Q) := R_vir (show mx_at 187 2 = some (.invokevirtual 205, 3) by decide +kernel) (mx_clk ow187 cc12_205) (Nat.le_of_ble_eq_true rfl) rfl rfl hc rfl (Nat.le_of_ble_eq_true rfl) (Nat.le_of_ble_eq_true rfl) (by rw [ml128]; exact Nat.le_of_ble_eq_true rfl)
set_option maxRecDepth 20000 in
theorem i187_5 : ex_ X d 187 5 [v0, v1, v2] [.int x] h Q = if ¬ x = 0 then ex_ X d 187 14 [v0, v1, v2] [] h Q else ex_ X d 187 8 [v0, v1, v2] [] h Q := (R_br (show mx_at 187 5 = some (.ifCond .ne 9, 3) by decide +kernel) rfl rfl).trans mx_ite
set_option maxRecDepth 20000 in
theorem i187_8 : ex_ X d 187 8 [.ref a, v1, v2] [] h Q = ex_ X d 187 9 [.ref a, v1, v2] [.ref a] h Q := ex_nx (show mx_at 187 8 = some (.aload_n 0, 1) by decide +kernel) rfl
set_option maxRecDepth 20000 in
theorem i187_9 : ex_ X d 187 9 [v0, v1, v2] [w0] h Q = ex_ X d 187 10 [v0, v1, v2] [.int 1, w0] h Q := R_iconst (show mx_at 187 9 = some (.iconst 1, 1) by decide +kernel) (by decide)
set_option maxRecDepth 20000 in
theorem i187_10 (hc : co_ h a = some 12) : ex_ X (d + 1) 187 10 [v0, v1, v2] [.int x0, .ref a] h Q = ev_ X d 123 [.ref a, .int x0] h (fun r h' => ex_ X (d + 1) 187 13 [v0, v1, v2] (r.toList ++ []) h' Q) := R_vir (show mx_at 187 10 = some (.invokevirtual 131, 3) by decide +kernel) (mx_clk ow187 cc12_131) (Nat.le_of_ble_eq_true rfl) rfl rfl hc rfl (Nat.le_of_ble_eq_true rfl) (Nat.le_of_ble_eq_true rfl) (by rw [ml123]; exact Nat.le_of_ble_eq_true rfl)
set_option maxRecDepth 20000 in
theorem i187_13 : ex_ X d 187 13 [v0, v1, v2] [.int x] h Q = Q (some (.int x)) h := ex_ret (show mx_at 187 13 = some (.ireturn, 1) by decide +kernel) (mx_retI rt187)
set_option maxRecDepth 20000 in
theorem i187_14 : ex_ X d 187 14 [v0, v1, v2] [] h Q = ex_ X d 187 15 [v0, v1, v2] [.int 0] h Q := R_iconst (show mx_at 187 14 = some (.iconst 0, 1) by decide +kernel) (by decide)
set_option maxRecDepth 20000 in
theorem i187_15 : ex_ X d 187 15 [v0, v1, v2] [.int x] h Q = (mx_nl v1 = true ∧ ex_ X d 187 16 [v0, v1, .int x] [] h Q) := mx_t1 (R_st (ok := mx_isI) (n := 2) (w := 1) (show mx_at 187 15 = some (.istore_n 2, 1) by decide +kernel) (fun _ _ => rfl) (Nat.le_of_ble_eq_true rfl)) rfl
set_option maxRecDepth 20000 in
theorem i187_16 : ex_ X d 187 16 [v0, v1, .int x] [] h Q = ex_ X d 187 17 [v0, v1, .int x] [.int x] h Q := ex_nx (show mx_at 187 16 = some (.iload_n 2, 1) by decide +kernel) rfl
set_option maxRecDepth 20000 in
theorem i187_17 : ex_ X d 187 17 [v0, v1, v2] [w0] h Q = ex_ X d 187 19 [v0, v1, v2] [.int 6, w0] h Q := R_bipush (show mx_at 187 17 = some (.bipush 6, 2) by decide +kernel) (by decide)
set_option maxRecDepth 20000 in
theorem i187_19 : ex_ X d 187 19 [v0, v1, v2] [.int y, .int x] h Q = if y ≤ x then ex_ X d 187 35 [v0, v1, v2] [] h Q else ex_ X d 187 22 [v0, v1, v2] [] h Q := (R_br (show mx_at 187 19 = some (.if_icmp .ge 16, 3) by decide +kernel) rfl rfl).trans mx_ite
set_option maxRecDepth 20000 in
theorem i187_22 : ex_ X d 187 22 [.ref a, v1, v2] [] h Q = ex_ X d 187 23 [.ref a, v1, v2] [.ref a] h Q := ex_nx (show mx_at 187 22 = some (.aload_n 0, 1) by decide +kernel) rfl
set_option maxRecDepth 20000 in
theorem i187_23 : ex_ X d 187 23 [v0, v1, v2] [.ref a] h Q = (gk_ h a 15 [(12, 0)] = true ∧ ex_ X d 187 26 [v0, v1, v2] [gv_ h a 15] h Q) := R_getf (show mx_at 187 23 = some (.getfield 31, 3) by decide +kernel) (mx_fdo ow187 fd120031)
set_option maxRecDepth 20000 in
theorem i187_26 : ex_ X d 187 26 [v0, v1, .int x] [w0] h Q = ex_ X d 187 27 [v0, v1, .int x] [.int x, w0] h Q := ex_nx (show mx_at 187 26 = some (.iload_n 2, 1) by decide +kernel) rfl
set_option maxRecDepth 20000 in
theorem i187_27 : ex_ X d 187 27 [v0, v1, v2] [w0, w1] h Q = ex_ X d 187 28 [v0, v1, v2] [.int 0, w0, w1] h Q := R_iconst (show mx_at 187 27 = some (.iconst 0, 1) by decide +kernel) (by decide)
set_option maxRecDepth 20000 in
theorem i187_28 : ex_ X d 187 28 [v0, v1, v2] [.int x, .int i, .ref a] h Q = (bk_ h a i = true ∧ ex_ X d 187 29 [v0, v1, v2] [] (bs_ h a i x) Q) := R_bast (show mx_at 187 28 = some (.bastore, 1) by decide +kernel)
set_option maxRecDepth 20000 in
theorem i187_29 : ex_ X d 187 29 [v0, v1, .int x] [] h Q = (mx_nl v1 = true ∧ ex_ X d 187 32 [v0, v1, .int (x + 1)] [] h Q) := R_iinc (n := 2) (c := 1) (show mx_at 187 29 = some (.iinc 2 1, 3) by decide +kernel) rfl
set_option maxRecDepth 20000 in
theorem i187_32 : ex_ X d 187 32 [v0, v1, v2] [] h Q = ex_ X d 187 16 [v0, v1, v2] [] h Q := R_to (show mx_at 187 32 = some (.goto (-16), 3) by decide +kernel) rfl rfl
set_option maxRecDepth 20000 in
theorem i187_35 : ex_ X d 187 35 [.ref a, v1, v2] [] h Q = ex_ X d 187 36 [.ref a, v1, v2] [.ref a] h Q := ex_nx (show mx_at 187 35 = some (.aload_n 0, 1) by decide +kernel) rfl
set_option maxRecDepth 20000 in
theorem i187_36 : ex_ X d 187 36 [.ref a, v1, v2] [w0] h Q = ex_ X d 187 37 [.ref a, v1, v2] [.ref a, w0] h Q := ex_nx (show mx_at 187 36 = some (.aload_n 0, 1) by decide +kernel) rfl
set_option maxRecDepth 20000 in
theorem i187_37 : ex_ X d 187 37 [v0, v1, v2] [.ref a, w0] h Q = (gk_ h a 0 [(12, 0)] = true ∧ ex_ X d 187 40 [v0, v1, v2] [gv_ h a 0, w0] h Q) := R_getf (show mx_at 187 37 = some (.getfield 7, 3) by decide +kernel) (mx_fdo ow187 fd120007)
set_option maxRecDepth 20000 in
theorem i187_40 (hc : co_ h a = some 12) : ex_ X (d + 1) 187 40 [v0, v1, v2] [.ref a0, .ref a] h Q = ev_ X d 168 [.ref a, .ref a0] h (fun r h' => ex_ X (d + 1) 187 43 [v0, v1, v2] (r.toList ++ []) h' Q) := R_vir (show mx_at 187 40 = some (.invokevirtual 220, 3) by decide +kernel) (mx_clk ow187 cc12_220) (Nat.le_of_ble_eq_true rfl) rfl rfl hc rfl (Nat.le_of_ble_eq_true rfl) (Nat.le_of_ble_eq_true rfl) (by rw [ml168]; exact Nat.le_of_ble_eq_true rfl)
set_option maxRecDepth 20000 in
theorem i187_43 : ex_ X d 187 43 [v0, v1, v2] [.int x] h Q = (mx_nl v1 = true ∧ ex_ X d 187 44 [v0, v1, .int x] [] h Q) := mx_t1 (R_st (ok := mx_isI) (n := 2) (w := 1) (show mx_at 187 43 = some (.istore_n 2, 1) by decide +kernel) (fun _ _ => rfl) (Nat.le_of_ble_eq_true rfl)) rfl
set_option maxRecDepth 20000 in
theorem i187_44 : ex_ X d 187 44 [v0, v1, .int x] [] h Q = ex_ X d 187 45 [v0, v1, .int x] [.int x] h Q := ex_nx (show mx_at 187 44 = some (.iload_n 2, 1) by decide +kernel) rfl
set_option maxRecDepth 20000 in
theorem i187_45 : ex_ X d 187 45 [v0, v1, v2] [.int x] h Q = if 0 ≤ x then ex_ X d 187 56 [v0, v1, v2] [] h Q else ex_ X d 187 48 [v0, v1, v2] [] h Q := (R_br (show mx_at 187 45 = some (.ifCond .ge 11, 3) by decide +kernel) rfl rfl).trans mx_ite
set_option maxRecDepth 20000 in
theorem i187_48 : ex_ X d 187 48 [.ref a, v1, v2] [] h Q = ex_ X d 187 49 [.ref a, v1, v2] [.ref a] h Q := ex_nx (show mx_at 187 48 = some (.aload_n 0, 1) by decide +kernel) rfl
set_option maxRecDepth 20000 in
theorem i187_49 : ex_ X d 187 49 [v0, v1, v2] [w0] h Q = ex_ X d 187 50 [v0, v1, v2] [.int 2, w0] h Q := R_iconst (show mx_at 187 49 = some (.iconst 2, 1) by decide +kernel) (by decide)
set_option maxRecDepth 20000 in
theorem i187_50 (hc : co_ h a = some 12) : ex_ X (d + 1) 187 50 [v0, v1, v2] [.int x0, .ref a] h Q = ev_ X d 123 [.ref a, .int x0] h (fun r h' => ex_ X (d + 1) 187 53 [v0, v1, v2] (r.toList ++ []) h' Q) := R_vir (show mx_at 187 50 = some (.invokevirtual 131, 3) by decide +kernel) (mx_clk ow187 cc12_131) (Nat.le_of_ble_eq_true rfl) rfl rfl hc rfl (Nat.le_of_ble_eq_true rfl) (Nat.le_of_ble_eq_true rfl) (by rw [ml123]; exact Nat.le_of_ble_eq_true rfl)
set_option maxRecDepth 20000 in
theorem i187_53 : ex_ X d 187 53 [v0, v1, v2] [w0] h Q = ex_ X d 187 57 [v0, v1, v2] [w0] h Q := R_to (show mx_at 187 53 = some (.goto 4, 3) by decide +kernel) rfl rfl
set_option maxRecDepth 20000 in
theorem i187_56 : ex_ X d 187 56 [v0, v1, .int x] [] h Q = ex_ X d 187 57 [v0, v1, .int x] [.int x] h Q := ex_nx (show mx_at 187 56 = some (.iload_n 2, 1) by decide +kernel) rfl
set_option maxRecDepth 20000 in
theorem i187_57 : ex_ X d 187 57 [v0, v1, v2] [.int x] h Q = Q (some (.int x)) h := ex_ret (show mx_at 187 57 = some (.ireturn, 1) by decide +kernel) (mx_retI rt187)
theorem i187_e : ev_ X d 187 [.ref a, .int x0] h Q = ex_ X d 187 0 [.ref a, .int x0, .double 0] [] h Q := by rw [ev_, ml187]; rfl
-- 188 X12_seed
set_option maxRecDepth 20000 in
theorem i188_0 : ex_ X d 188 0 [.ref a, v1, v2] [] h Q = ex_ X d 188 1 [.ref a, v1, v2] [.ref a] h Q := ex_nx (show mx_at 188 0 = some (.aload_n 0, 1) by decide +kernel) rfl
set_option maxRecDepth 20000 in
theorem i188_1 : ex_ X d 188 1 [v0, v1, v2] [.ref a] h Q = (gk_ h a 0 [(12, 0)] = true ∧ ex_ X d 188 4 [v0, v1, v2] [gv_ h a 0] h Q) := R_getf (show mx_at 188 1 = some (.getfield 7, 3) by decide +kernel) (mx_fdo ow188 fd120007)
set_option maxRecDepth 20000 in
theorem i188_4 : ex_ X d 188 4 [v0, v1, v2] [w0] h Q = ex_ X d 188 6 [v0, v1, v2] [.int 8, w0] h Q := R_bipush (show mx_at 188 4 = some (.bipush 8, 2) by decide +kernel) (by decide)
set_option maxRecDepth 20000 in
theorem i188_6 : ex_ X d 188 6 [v0, v1, v2] [.int i, .ref a] h Q = (ik_ h a i = true ∧ ex_ X d 188 7 [v0, v1, v2] [.int (ia_ h a i)] h Q) := R_iald (show mx_at 188 6 = some (.iaload, 1) by decide +kernel)
set_option maxRecDepth 20000 in
theorem i188_7 : ex_ X d 188 7 [v0, v1, v2] [.int x] h Q = (mx_nl v1 = true ∧ ex_ X d 188 8 [v0, v1, .int x] [] h Q) := mx_t1 (R_st (ok := mx_isI) (n := 2) (w := 1) (show mx_at 188 7 = some (.istore_n 2, 1) by decide +kernel) (fun _ _ => rfl) (Nat.le_of_ble_eq_true rfl)) rfl
set_option maxRecDepth 20000 in
theorem i188_8 : ex_ X d 188 8 [.ref a, v1, v2] [] h Q = ex_ X d 188 9 [.ref a, v1, v2] [.ref a] h Q := ex_nx (show mx_at 188 8 = some (.aload_n 0, 1) by decide +kernel) rfl
set_option maxRecDepth 20000 in
theorem i188_9 : ex_ X d 188 9 [v0, v1, v2] [.ref a] h Q = (gk_ h a 0 [(12, 0)] = true ∧ ex_ X d 188 12 [v0, v1, v2] [gv_ h a 0] h Q) := R_getf (show mx_at 188 9 = some (.getfield 7, 3) by decide +kernel) (mx_fdo ow188 fd120007)
set_option maxRecDepth 20000 in
theorem i188_12 : ex_ X d 188 12 [v0, v1, v2] [w0] h Q = ex_ X d 188 14 [v0, v1, v2] [.int 8, w0] h Q := R_bipush (show mx_at 188 12 = some (.bipush 8, 2) by decide +kernel) (by decide)
set_option maxRecDepth 20000 in
theorem i188_14 : ex_ X d 188 14 [v0, .int x, v2] [w0, w1] h Q = ex_ X d 188 15 [v0, .int x, v2] [.int x, w0, w1] h Q := ex_nx (show mx_at 188 14 = some (.iload_n 1, 1) by decide +kernel) rfl
set_option maxRecDepth 20000 in
theorem i188_15 : ex_ X d 188 15 [v0, v1, v2] [.int x, .int i, .ref a] h Q = (ik_ h a i = true ∧ ex_ X d 188 16 [v0, v1, v2] [] (is_ h a i x) Q) := R_iast (show mx_at 188 15 = some (.iastore, 1) by decide +kernel)
set_option maxRecDepth 20000 in
theorem i188_16 : ex_ X d 188 16 [v0, v1, .int x] [] h Q = ex_ X d 188 17 [v0, v1, .int x] [.int x] h Q := ex_nx (show mx_at 188 16 = some (.iload_n 2, 1) by decide +kernel) rfl
set_option maxRecDepth 20000 in
theorem i188_17 : ex_ X d 188 17 [v0, v1, v2] [.int x] h Q = Q (some (.int x)) h := ex_ret (show mx_at 188 17 = some (.ireturn, 1) by decide +kernel) (mx_retI rt188)
theorem i188_e : ev_ X d 188 [.ref a, .int x0] h Q = ex_ X d 188 0 [.ref a, .int x0, .double 0] [] h Q := by rw [ev_, ml188]; rfl
-- 189 X12_ran
set_option maxRecDepth 20000 in
theorem i189_0 : ex_ X d 189 0 [.ref a, v1] [] h Q = ex_ X d 189 1 [.ref a, v1] [.ref a] h Q := ex_nx (show mx_at 189 0 = some (.aload_n 0, 1) by decide +kernel) rfl
set_option maxRecDepth 20000 in
theorem i189_1 : ex_ X d 189 1 [v0, v1] [.ref a] h Q = (gk_ h a 18 [(12, 0)] = true ∧ ex_ X d 189 4 [v0, v1] [gv_ h a 18] h Q) := R_getf (show mx_at 189 1 = some (.getfield 261, 3) by decide +kernel) (mx_fdo ow189 fd120261)
set_option maxRecDepth 20000 in
theorem i189_4 : ex_ X d 189 4 [v0, v1] [w0] h Q = ex_ X d 189 6 [v0, v1] [.int 40, w0] h Q := R_bipush (show mx_at 189 4 = some (.bipush 40, 2) by decide +kernel) (by decide)
set_option maxRecDepth 20000 in
theorem i189_6 : ex_ X d 189 6 [v0, v1] [.int y, .int x] h Q = if y ≤ x then ex_ X d 189 29 [v0, v1] [] h Q else ex_ X d 189 9 [v0, v1] [] h Q := (R_br (show mx_at 189 6 = some (.if_icmp .ge 23, 3) by decide +kernel) rfl rfl).trans mx_ite
set_option maxRecDepth 20000 in
theorem i189_9 : ex_ X d 189 9 [.ref a, v1] [] h Q = ex_ X d 189 10 [.ref a, v1] [.ref a] h Q := ex_nx (show mx_at 189 9 = some (.aload_n 0, 1) by decide +kernel) rfl
set_option maxRecDepth 20000 in
theorem i189_10 : ex_ X d 189 10 [v0, v1] [.ref a] h Q = (gk_ h a 17 [(12, 0)] = true ∧ ex_ X d 189 13 [v0, v1] [gv_ h a 17] h Q) := R_getf (show mx_at 189 10 = some (.getfield 38, 3) by decide +kernel) (mx_fdo ow189 fd120038)
set_option maxRecDepth 20000 in
theorem i189_13 : ex_ X d 189 13 [.ref a, v1] [w0] h Q = ex_ X d 189 14 [.ref a, v1] [.ref a, w0] h Q := ex_nx (show mx_at 189 13 = some (.aload_n 0, 1) by decide +kernel) rfl
set_option maxRecDepth 20000 in
theorem i189_14 : ex_ X d 189 14 [v0, v1] [.ref a, w0] h Q = (gk_ h a 18 [(12, 0)] = true ∧ ex_ X d 189 17 [v0, v1] [gv_ h a 18, w0] h Q) := R_getf (show mx_at 189 14 = some (.getfield 261, 3) by decide +kernel) (mx_fdo ow189 fd120261)
set_option maxRecDepth 20000 in
theorem i189_17 : ex_ X d 189 17 [v0, .int x] [w0, w1] h Q = ex_ X d 189 18 [v0, .int x] [.int x, w0, w1] h Q := ex_nx (show mx_at 189 17 = some (.iload_n 1, 1) by decide +kernel) rfl
set_option maxRecDepth 20000 in
theorem i189_18 : ex_ X d 189 18 [v0, v1] [.int x, .int i, .ref a] h Q = (ik_ h a i = true ∧ ex_ X d 189 19 [v0, v1] [] (is_ h a i x) Q) := R_iast (show mx_at 189 18 = some (.iastore, 1) by decide +kernel)
set_option maxRecDepth 20000 in
theorem i189_19 : ex_ X d 189 19 [.ref a, v1] [] h Q = ex_ X d 189 20 [.ref a, v1] [.ref a] h Q := ex_nx (show mx_at 189 19 = some (.aload_n 0, 1) by decide +kernel) rfl
set_option maxRecDepth 20000 in
theorem i189_20 : ex_ X d 189 20 [v0, v1] [.ref a] h Q = ex_ X d 189 21 [v0, v1] [.ref a, .ref a] h Q := ex_nx (show mx_at 189 20 = some (.dup, 1) by decide +kernel) rfl
set_option maxRecDepth 20000 in
theorem i189_21 : ex_ X d 189 21 [v0, v1] [.ref a, w0] h Q = (gk_ h a 18 [(12, 0)] = true ∧ ex_ X d 189 24 [v0, v1] [gv_ h a 18, w0] h Q) := R_getf (show mx_at 189 21 = some (.getfield 261, 3) by decide +kernel) (mx_fdo ow189 fd120261)
set_option maxRecDepth 20000 in
theorem i189_24 : ex_ X d 189 24 [v0, v1] [w0, w1] h Q = ex_ X d 189 25 [v0, v1] [.int 1, w0, w1] h Q := R_iconst (show mx_at 189 24 = some (.iconst 1, 1) by decide +kernel) (by decide)
set_option maxRecDepth 20000 in
theorem i189_25 : ex_ X d 189 25 [v0, v1] [.int y, .int x, w0] h Q = ex_ X d 189 26 [v0, v1] [.int (x + y), w0] h Q := ex_nx (show mx_at 189 25 = some (.iadd, 1) by decide +kernel) rfl
set_option maxRecDepth 20000 in
theorem i189_26 : ex_ X d 189 26 [v0, v1] [w, .ref a] h Q = (pk_ 189 h a 18 w [(12, 0)] = true ∧ ex_ X d 189 29 [v0, v1] [] (pf_ h a 18 w) Q) := R_putf (show mx_at 189 26 = some (.putfield 261, 3) by decide +kernel) (mx_fdo ow189 fd120261)
set_option maxRecDepth 20000 in
theorem i189_29 : ex_ X d 189 29 [v0, v1] [] h Q = Q none h := ex_ret (show mx_at 189 29 = some (.return_, 1) by decide +kernel) (mx_retV rt189)
theorem i189_e : ev_ X d 189 [.ref a, .int x0] h Q = ex_ X d 189 0 [.ref a, .int x0] [] h Q := by rw [ev_, ml189]; rfl
-- 190 X12_above
set_option maxRecDepth 20000 in
theorem i190_0 : ex_ X d 190 0 [.int x] [] h Q = ex_ X d 190 1 [.int x] [.int x] h Q := ex_nx (show mx_at 190 0 = some (.iload_n 0, 1) by decide +kernel) rfl
set_option maxRecDepth 20000 in
theorem i190_1 : ex_ X d 190 1 [v0] [w0] h Q = ex_ X d 190 2 [v0] [.int 3, w0] h Q := R_iconst (show mx_at 190 1 = some (.iconst 3, 1) by decide +kernel) (by decide)
set_option maxRecDepth 20000 in
theorem i190_2 : ex_ X d 190 2 [v0] [.int y, .int x] h Q = if ¬ x = y then ex_ X d 190 9 [v0] [] h Q else ex_ X d 190 5 [v0] [] h Q := (R_br (show mx_at 190 2 = some (.if_icmp .ne 7, 3) by decide +kernel) rfl rfl).trans mx_ite
set_option maxRecDepth 20000 in
theorem i190_5 : ex_ X d 190 5 [v0] [] h Q = ex_ X d 190 6 [v0] [.int 2] h Q := R_iconst (show mx_at 190 5 = some (.iconst 2, 1) by decide +kernel) (by decide)
set_option maxRecDepth 20000 in
theorem i190_6 : ex_ X d 190 6 [v0] [w0] h Q = ex_ X d 190 29 [v0] [w0] h Q := R_to (show mx_at 190 6 = some (.goto 23, 3) by decide +kernel) rfl rfl
set_option maxRecDepth 20000 in
theorem i190_9 : ex_ X d 190 9 [.int x] [] h Q = ex_ X d 190 10 [.int x] [.int x] h Q := ex_nx (show mx_at 190 9 = some (.iload_n 0, 1) by decide +kernel) rfl
set_option maxRecDepth 20000 in
theorem i190_10 : ex_ X d 190 10 [v0] [w0] h Q = ex_ X d 190 11 [v0] [.int 5, w0] h Q := R_iconst (show mx_at 190 10 = some (.iconst 5, 1) by decide +kernel) (by decide)
set_option maxRecDepth 20000 in
theorem i190_11 : ex_ X d 190 11 [v0] [.int y, .int x] h Q = if ¬ x = y then ex_ X d 190 18 [v0] [] h Q else ex_ X d 190 14 [v0] [] h Q := (R_br (show mx_at 190 11 = some (.if_icmp .ne 7, 3) by decide +kernel) rfl rfl).trans mx_ite
set_option maxRecDepth 20000 in
theorem i190_14 : ex_ X d 190 14 [v0] [] h Q = ex_ X d 190 15 [v0] [.int 4] h Q := R_iconst (show mx_at 190 14 = some (.iconst 4, 1) by decide +kernel) (by decide)
set_option maxRecDepth 20000 in
theorem i190_15 : ex_ X d 190 15 [v0] [w0] h Q = ex_ X d 190 29 [v0] [w0] h Q := R_to (show mx_at 190 15 = some (.goto 14, 3) by decide +kernel) rfl rfl
set_option maxRecDepth 20000 in
theorem i190_18 : ex_ X d 190 18 [.int x] [] h Q = ex_ X d 190 19 [.int x] [.int x] h Q := ex_nx (show mx_at 190 18 = some (.iload_n 0, 1) by decide +kernel) rfl
set_option maxRecDepth 20000 in
theorem i190_19 : ex_ X d 190 19 [v0] [w0] h Q = ex_ X d 190 21 [v0] [.int 6, w0] h Q := R_bipush (show mx_at 190 19 = some (.bipush 6, 2) by decide +kernel) (by decide)
set_option maxRecDepth 20000 in
theorem i190_21 : ex_ X d 190 21 [v0] [.int y, .int x] h Q = if ¬ x = y then ex_ X d 190 28 [v0] [] h Q else ex_ X d 190 24 [v0] [] h Q := (R_br (show mx_at 190 21 = some (.if_icmp .ne 7, 3) by decide +kernel) rfl rfl).trans mx_ite
set_option maxRecDepth 20000 in
theorem i190_24 : ex_ X d 190 24 [v0] [] h Q = ex_ X d 190 25 [v0] [.int 1] h Q := R_iconst (show mx_at 190 24 = some (.iconst 1, 1) by decide +kernel) (by decide)
set_option maxRecDepth 20000 in
theorem i190_25 : ex_ X d 190 25 [v0] [w0] h Q = ex_ X d 190 29 [v0] [w0] h Q := R_to (show mx_at 190 25 = some (.goto 4, 3) by decide +kernel) rfl rfl
set_option maxRecDepth 20000 in
theorem i190_28 : ex_ X d 190 28 [v0] [] h Q = ex_ X d 190 29 [v0] [.int 0] h Q := R_iconst (show mx_at 190 28 = some (.iconst 0, 1) by decide +kernel) (by decide)
set_option maxRecDepth 20000 in
theorem i190_29 : ex_ X d 190 29 [v0] [.int x] h Q = Q (some (.int x)) h := ex_ret (show mx_at 190 29 = some (.ireturn, 1) by decide +kernel) (mx_retI rt190)
theorem i190_e : ev_ X d 190 [.int x0] h Q = ex_ X d 190 0 [.int x0] [] h Q := by rw [ev_, ml190]; rfl
-- 191 X12_own
set_option maxRecDepth 20000 in
theorem i191_0 : ex_ X d 191 0 [.ref a] [] h Q = ex_ X d 191 1 [.ref a] [.ref a] h Q := ex_nx (show mx_at 191 0 = some (.aload_n 0, 1) by decide +kernel) rfl
set_option maxRecDepth 20000 in
theorem i191_1 : ex_ X d 191 1 [v0] [.ref a] h Q = (gk_ h a 0 [(12, 0)] = true ∧ ex_ X d 191 4 [v0] [gv_ h a 0] h Q) := R_getf (show mx_at 191 1 = some (.getfield 7, 3) by decide +kernel) (mx_fdo ow191 fd120007)
set_option maxRecDepth 20000 in
theorem i191_4 : ex_ X d 191 4 [.ref a] [w0] h Q = ex_ X d 191 5 [.ref a] [.ref a, w0] h Q := ex_nx (show mx_at 191 4 = some (.aload_n 0, 1) by decide +kernel) rfl
set_option maxRecDepth 20000 in
theorem i191_5 : ex_ X d 191 5 [v0] [.ref a, w0] h Q = (gk_ h a 19 [(12, 0)] = true ∧ ex_ X d 191 8 [v0] [gv_ h a 19, w0] h Q) := R_getf (show mx_at 191 5 = some (.getfield 264, 3) by decide +kernel) (mx_fdo ow191 fd120264)
set_option maxRecDepth 20000 in
theorem i191_8 : ex_ X d 191 8 [v0] [w0, w1] h Q = ex_ X d 191 9 [v0] [.int 0, w0, w1] h Q := R_iconst (show mx_at 191 8 = some (.iconst 0, 1) by decide +kernel) (by decide)
set_option maxRecDepth 20000 in
theorem i191_9 : ex_ X (d + 1) 191 9 [v0] [.int x2, .int x1, .ref a0] h Q = ev_ X d 129 [.ref a0, .int x1, .int x2] h (fun r h' => ex_ X (d + 1) 191 12 [v0] (r.toList ++ []) h' Q) := R_stat (show mx_at 191 9 = some (.invokestatic 154, 3) by decide +kernel) (mx_clk ow191 cc12_154) (Nat.le_of_ble_eq_true rfl) rfl rfl (Nat.le_of_ble_eq_true rfl) ml129 (Nat.le_of_ble_eq_true rfl)
set_option maxRecDepth 20000 in
theorem i191_12 : ex_ X d 191 12 [v0] [.int x] h Q = Q (some (.int x)) h := ex_ret (show mx_at 191 12 = some (.ireturn, 1) by decide +kernel) (mx_retI rt191)
theorem i191_e : ev_ X d 191 [.ref a] h Q = ex_ X d 191 0 [.ref a] [] h Q := by rw [ev_, ml191]; rfl
-- 192 X12_asksOf
set_option maxRecDepth 20000 in
theorem i192_0 : ex_ X d 192 0 [v0, .int x, v2] [] h Q = ex_ X d 192 1 [v0, .int x, v2] [.int x] h Q := ex_nx (show mx_at 192 0 = some (.iload_n 1, 1) by decide +kernel) rfl
set_option maxRecDepth 20000 in
theorem i192_1_0 : ex_ X d 192 1 [v0, v1, v2] [.int 0] h Q = ex_ X d 192 32 [v0, v1, v2] [] h Q := R_tsw (off := 31) (show mx_at 192 1 = some (.tableswitch 80 0 3 #[31, 80, 44, 62], 31) by decide +kernel) (by decide) rfl
set_option maxRecDepth 20000 in
theorem i192_1_1 : ex_ X d 192 1 [v0, v1, v2] [.int 1] h Q = ex_ X d 192 81 [v0, v1, v2] [] h Q := R_tsw (off := 80) (show mx_at 192 1 = some (.tableswitch 80 0 3 #[31, 80, 44, 62], 31) by decide +kernel) (by decide) rfl
set_option maxRecDepth 20000 in
theorem i192_1_2 : ex_ X d 192 1 [v0, v1, v2] [.int 2] h Q = ex_ X d 192 45 [v0, v1, v2] [] h Q := R_tsw (off := 44) (show mx_at 192 1 = some (.tableswitch 80 0 3 #[31, 80, 44, 62], 31) by decide +kernel) (by decide) rfl
set_option maxRecDepth 20000 in
theorem i192_1_3 : ex_ X d 192 1 [v0, v1, v2] [.int 3] h Q = ex_ X d 192 63 [v0, v1, v2] [] h Q := R_tsw (off := 62) (show mx_at 192 1 = some (.tableswitch 80 0 3 #[31, 80, 44, 62], 31) by decide +kernel) (by decide) rfl
set_option maxRecDepth 20000 in
theorem i192_1_d (hx : x.toInt < 0 ∨ 3 < x.toInt) : ex_ X d 192 1 [v0, v1, v2] [.int x] h Q = ex_ X d 192 81 [v0, v1, v2] [] h Q := R_tsw (off := 80) (show mx_at 192 1 = some (.tableswitch 80 0 3 #[31, 80, 44, 62], 31) by decide +kernel) (if_pos hx) rfl
set_option maxRecDepth 20000 in
theorem i192_32 : ex_ X d 192 32 [.ref a, v1, v2] [] h Q = ex_ X d 192 33 [.ref a, v1, v2] [.ref a] h Q := ex_nx (show mx_at 192 32 = some (.aload_n 0, 1) by decide +kernel) rfl
set_option maxRecDepth 20000 in
theorem i192_33 : ex_ X d 192 33 [v0, v1, v2] [w0] h Q = ex_ X d 192 35 [v0, v1, v2] [.int 10, w0] h Q := R_bipush (show mx_at 192 33 = some (.bipush 10, 2) by decide +kernel) (by decide)
set_option maxRecDepth 20000 in
theorem i192_35 (hc : co_ h a = some 12) : ex_ X (d + 1) 192 35 [v0, v1, v2] [.int x0, .ref a] h Q = ev_ X d 189 [.ref a, .int x0] h (fun r h' => ex_ X (d + 1) 192 38 [v0, v1, v2] (r.toList ++ []) h' Q) := R_vir (show mx_at 192 35 = some (.invokevirtual 267, 3) by decide +kernel) (mx_clk ow192 cc12_267) (Nat.le_of_ble_eq_true rfl) rfl rfl hc rfl (Nat.le_of_ble_eq_true rfl) (Nat.le_of_ble_eq_true rfl) (by rw [ml189]; exact Nat.le_of_ble_eq_true rfl)
set_option maxRecDepth 20000 in
theorem i192_38 : ex_ X d 192 38 [v0, v1, .int x] [] h Q = ex_ X d 192 39 [v0, v1, .int x] [.int x] h Q := ex_nx (show mx_at 192 38 = some (.iload_n 2, 1) by decide +kernel) rfl
set_option maxRecDepth 20000 in
theorem i192_39 : ex_ X d 192 39 [.ref a, v1, v2] [w0] h Q = ex_ X d 192 40 [.ref a, v1, v2] [.ref a, w0] h Q := ex_nx (show mx_at 192 39 = some (.aload_n 0, 1) by decide +kernel) rfl
set_option maxRecDepth 20000 in
theorem i192_40 : ex_ X d 192 40 [v0, v1, v2] [.ref a, w0] h Q = (gk_ h a 19 [(12, 0)] = true ∧ ex_ X d 192 43 [v0, v1, v2] [gv_ h a 19, w0] h Q) := R_getf (show mx_at 192 40 = some (.getfield 264, 3) by decide +kernel) (mx_fdo ow192 fd120264)
set_option maxRecDepth 20000 in
theorem i192_43 : ex_ X d 192 43 [v0, v1, v2] [.int y, .int x] h Q = ex_ X d 192 44 [v0, v1, v2] [.int (x + y)] h Q := ex_nx (show mx_at 192 43 = some (.iadd, 1) by decide +kernel) rfl
set_option maxRecDepth 20000 in
theorem i192_44 : ex_ X d 192 44 [v0, v1, v2] [.int x] h Q = Q (some (.int x)) h := ex_ret (show mx_at 192 44 = some (.ireturn, 1) by decide +kernel) (mx_retI rt192)
set_option maxRecDepth 20000 in
theorem i192_45 : ex_ X d 192 45 [.ref a, v1, v2] [] h Q = ex_ X d 192 46 [.ref a, v1, v2] [.ref a] h Q := ex_nx (show mx_at 192 45 = some (.aload_n 0, 1) by decide +kernel) rfl
set_option maxRecDepth 20000 in
theorem i192_46 : ex_ X d 192 46 [v0, v1, v2] [w0] h Q = ex_ X d 192 48 [v0, v1, v2] [.int 30, w0] h Q := R_bipush (show mx_at 192 46 = some (.bipush 30, 2) by decide +kernel) (by decide)
set_option maxRecDepth 20000 in
theorem i192_48 (hc : co_ h a = some 12) : ex_ X (d + 1) 192 48 [v0, v1, v2] [.int x0, .ref a] h Q = ev_ X d 189 [.ref a, .int x0] h (fun r h' => ex_ X (d + 1) 192 51 [v0, v1, v2] (r.toList ++ []) h' Q) := R_vir (show mx_at 192 48 = some (.invokevirtual 267, 3) by decide +kernel) (mx_clk ow192 cc12_267) (Nat.le_of_ble_eq_true rfl) rfl rfl hc rfl (Nat.le_of_ble_eq_true rfl) (Nat.le_of_ble_eq_true rfl) (by rw [ml189]; exact Nat.le_of_ble_eq_true rfl)
set_option maxRecDepth 20000 in
theorem i192_51 : ex_ X d 192 51 [.ref a, v1, v2] [] h Q = ex_ X d 192 52 [.ref a, v1, v2] [.ref a] h Q := ex_nx (show mx_at 192 51 = some (.aload_n 0, 1) by decide +kernel) rfl
set_option maxRecDepth 20000 in
theorem i192_52 : ex_ X d 192 52 [v0, v1, v2] [w0] h Q = ex_ X d 192 53 [v0, v1, v2] [.int 2, w0] h Q := R_iconst (show mx_at 192 52 = some (.iconst 2, 1) by decide +kernel) (by decide)
set_option maxRecDepth 20000 in
theorem i192_53 : ex_ X (d + 1) 192 53 [v0, v1, v2] [.int x0, w0] h Q = ev_ X d 190 [.int x0] h (fun r h' => ex_ X (d + 1) 192 56 [v0, v1, v2] (r.toList ++ [w0]) h' Q) := R_stat (show mx_at 192 53 = some (.invokestatic 270, 3) by decide +kernel) (mx_clk ow192 cc12_270) (Nat.le_of_ble_eq_true rfl) rfl rfl (Nat.le_of_ble_eq_true rfl) ml190 (Nat.le_of_ble_eq_true rfl)
set_option maxRecDepth 20000 in
theorem i192_56 : ex_ X d 192 56 [v0, v1, .int x] [w0, w1] h Q = ex_ X d 192 57 [v0, v1, .int x] [.int x, w0, w1] h Q := ex_nx (show mx_at 192 56 = some (.iload_n 2, 1) by decide +kernel) rfl
set_option maxRecDepth 20000 in
theorem i192_57 (hc : co_ h a = some 12) : ex_ X (d + 1) 192 57 [v0, v1, v2] [.int x1, .int x0, .ref a] h Q = ev_ X d 192 [.ref a, .int x0, .int x1] h (fun r h' => ex_ X (d + 1) 192 60 [v0, v1, v2] (r.toList ++ []) h' Q) := R_vir (show mx_at 192 57 = some (.invokevirtual 273, 3) by decide +kernel) (mx_clk ow192 cc12_273) (Nat.le_of_ble_eq_true rfl) rfl rfl hc rfl (Nat.le_of_ble_eq_true rfl) (Nat.le_of_ble_eq_true rfl) (by rw [ml192]; exact Nat.le_of_ble_eq_true rfl)
set_option maxRecDepth 20000 in
theorem i192_60 : ex_ X d 192 60 [v0, v1, v2] [w0] h Q = ex_ X d 192 61 [v0, v1, v2] [.int 3, w0] h Q := R_iconst (show mx_at 192 60 = some (.iconst 3, 1) by decide +kernel) (by decide)
set_option maxRecDepth 20000 in
theorem i192_61 : ex_ X d 192 61 [v0, v1, v2] [.int y, .int x] h Q = ex_ X d 192 62 [v0, v1, v2] [.int (x * y)] h Q := ex_nx (show mx_at 192 61 = some (.imul, 1) by decide +kernel) rfl
set_option maxRecDepth 20000 in
theorem i192_62 : ex_ X d 192 62 [v0, v1, v2] [.int x] h Q = Q (some (.int x)) h := ex_ret (show mx_at 192 62 = some (.ireturn, 1) by decide +kernel) (mx_retI rt192)
set_option maxRecDepth 20000 in
theorem i192_63 : ex_ X d 192 63 [.ref a, v1, v2] [] h Q = ex_ X d 192 64 [.ref a, v1, v2] [.ref a] h Q := ex_nx (show mx_at 192 63 = some (.aload_n 0, 1) by decide +kernel) rfl
set_option maxRecDepth 20000 in
theorem i192_64 : ex_ X d 192 64 [v0, v1, v2] [w0] h Q = ex_ X d 192 66 [v0, v1, v2] [.int 41, w0] h Q := R_bipush (show mx_at 192 64 = some (.bipush 41, 2) by decide +kernel) (by decide)
set_option maxRecDepth 20000 in
theorem i192_66 (hc : co_ h a = some 12) : ex_ X (d + 1) 192 66 [v0, v1, v2] [.int x0, .ref a] h Q = ev_ X d 189 [.ref a, .int x0] h (fun r h' => ex_ X (d + 1) 192 69 [v0, v1, v2] (r.toList ++ []) h' Q) := R_vir (show mx_at 192 66 = some (.invokevirtual 267, 3) by decide +kernel) (mx_clk ow192 cc12_267) (Nat.le_of_ble_eq_true rfl) rfl rfl hc rfl (Nat.le_of_ble_eq_true rfl) (Nat.le_of_ble_eq_true rfl) (by rw [ml189]; exact Nat.le_of_ble_eq_true rfl)
set_option maxRecDepth 20000 in
theorem i192_69 : ex_ X d 192 69 [.ref a, v1, v2] [] h Q = ex_ X d 192 70 [.ref a, v1, v2] [.ref a] h Q := ex_nx (show mx_at 192 69 = some (.aload_n 0, 1) by decide +kernel) rfl
set_option maxRecDepth 20000 in
theorem i192_70 : ex_ X d 192 70 [v0, v1, v2] [w0] h Q = ex_ X d 192 71 [v0, v1, v2] [.int 3, w0] h Q := R_iconst (show mx_at 192 70 = some (.iconst 3, 1) by decide +kernel) (by decide)
set_option maxRecDepth 20000 in
theorem i192_71 : ex_ X (d + 1) 192 71 [v0, v1, v2] [.int x0, w0] h Q = ev_ X d 190 [.int x0] h (fun r h' => ex_ X (d + 1) 192 74 [v0, v1, v2] (r.toList ++ [w0]) h' Q) := R_stat (show mx_at 192 71 = some (.invokestatic 270, 3) by decide +kernel) (mx_clk ow192 cc12_270) (Nat.le_of_ble_eq_true rfl) rfl rfl (Nat.le_of_ble_eq_true rfl) ml190 (Nat.le_of_ble_eq_true rfl)
set_option maxRecDepth 20000 in
theorem i192_74 : ex_ X d 192 74 [v0, v1, .int x] [w0, w1] h Q = ex_ X d 192 75 [v0, v1, .int x] [.int x, w0, w1] h Q := ex_nx (show mx_at 192 74 = some (.iload_n 2, 1) by decide +kernel) rfl
set_option maxRecDepth 20000 in
theorem i192_75 : ex_ X d 192 75 [v0, v1, v2] [w0, w1, w2] h Q = ex_ X d 192 76 [v0, v1, v2] [.int 1, w0, w1, w2] h Q := R_iconst (show mx_at 192 75 = some (.iconst 1, 1) by decide +kernel) (by decide)
set_option maxRecDepth 20000 in
theorem i192_76 : ex_ X d 192 76 [v0, v1, v2] [.int y, .int x, w0, w1] h Q = ex_ X d 192 77 [v0, v1, v2] [.int (x + y), w0, w1] h Q := ex_nx (show mx_at 192 76 = some (.iadd, 1) by decide +kernel) rfl
set_option maxRecDepth 20000 in
theorem i192_77 (hc : co_ h a = some 12) : ex_ X (d + 1) 192 77 [v0, v1, v2] [.int x1, .int x0, .ref a] h Q = ev_ X d 192 [.ref a, .int x0, .int x1] h (fun r h' => ex_ X (d + 1) 192 80 [v0, v1, v2] (r.toList ++ []) h' Q) := R_vir (show mx_at 192 77 = some (.invokevirtual 273, 3) by decide +kernel) (mx_clk ow192 cc12_273) (Nat.le_of_ble_eq_true rfl) rfl rfl hc rfl (Nat.le_of_ble_eq_true rfl) (Nat.le_of_ble_eq_true rfl) (by rw [ml192]; exact Nat.le_of_ble_eq_true rfl)
set_option maxRecDepth 20000 in
theorem i192_80 : ex_ X d 192 80 [v0, v1, v2] [.int x] h Q = Q (some (.int x)) h := ex_ret (show mx_at 192 80 = some (.ireturn, 1) by decide +kernel) (mx_retI rt192)
set_option maxRecDepth 20000 in
theorem i192_81 : ex_ X d 192 81 [.ref a, v1, v2] [] h Q = ex_ X d 192 82 [.ref a, v1, v2] [.ref a] h Q := ex_nx (show mx_at 192 81 = some (.aload_n 0, 1) by decide +kernel) rfl
set_option maxRecDepth 20000 in
theorem i192_82 : ex_ X d 192 82 [v0, .int x, v2] [w0] h Q = ex_ X d 192 83 [v0, .int x, v2] [.int x, w0] h Q := ex_nx (show mx_at 192 82 = some (.iload_n 1, 1) by decide +kernel) rfl
set_option maxRecDepth 20000 in
theorem i192_83 : ex_ X (d + 1) 192 83 [v0, v1, v2] [.int x0, w0] h Q = ev_ X d 190 [.int x0] h (fun r h' => ex_ X (d + 1) 192 86 [v0, v1, v2] (r.toList ++ [w0]) h' Q) := R_stat (show mx_at 192 83 = some (.invokestatic 270, 3) by decide +kernel) (mx_clk ow192 cc12_270) (Nat.le_of_ble_eq_true rfl) rfl rfl (Nat.le_of_ble_eq_true rfl) ml190 (Nat.le_of_ble_eq_true rfl)
set_option maxRecDepth 20000 in
theorem i192_86 : ex_ X d 192 86 [v0, v1, .int x] [w0, w1] h Q = ex_ X d 192 87 [v0, v1, .int x] [.int x, w0, w1] h Q := ex_nx (show mx_at 192 86 = some (.iload_n 2, 1) by decide +kernel) rfl
set_option maxRecDepth 20000 in
theorem i192_87 (hc : co_ h a = some 12) : ex_ X (d + 1) 192 87 [v0, v1, v2] [.int x1, .int x0, .ref a] h Q = ev_ X d 192 [.ref a, .int x0, .int x1] h (fun r h' => ex_ X (d + 1) 192 90 [v0, v1, v2] (r.toList ++ []) h' Q) := R_vir (show mx_at 192 87 = some (.invokevirtual 273, 3) by decide +kernel) (mx_clk ow192 cc12_273) (Nat.le_of_ble_eq_true rfl) rfl rfl hc rfl (Nat.le_of_ble_eq_true rfl) (Nat.le_of_ble_eq_true rfl) (by rw [ml192]; exact Nat.le_of_ble_eq_true rfl)
set_option maxRecDepth 20000 in
theorem i192_90 : ex_ X d 192 90 [v0, v1, v2] [.int x] h Q = Q (some (.int x)) h := ex_ret (show mx_at 192 90 = some (.ireturn, 1) by decide +kernel) (mx_retI rt192)
theorem i192_e : ev_ X d 192 [.ref a, .int x0, .int x1] h Q = ex_ X d 192 0 [.ref a, .int x0, .int x1] [] h Q := by rw [ev_, ml192]; rfl
-- 193 X12_sells
set_option maxRecDepth 20000 in
theorem i193_0 : ex_ X d 193 0 [v0, .int x, v2, v3] [] h Q = ex_ X d 193 1 [v0, .int x, v2, v3] [.int x] h Q := ex_nx (show mx_at 193 0 = some (.iload_n 1, 1) by decide +kernel) rfl
set_option maxRecDepth 20000 in
theorem i193_1_0 : ex_ X d 193 1 [v0, v1, v2, v3] [.int 0] h Q = ex_ X d 193 36 [v0, v1, v2, v3] [] h Q := R_lsw (off := 35) (show mx_at 193 1 = some (.lookupswitch 111 #[(0, 35), (1, 53), (6, 81)], 35) by decide +kernel) (by decide) (by decide) rfl
set_option maxRecDepth 20000 in
theorem i193_1_1 : ex_ X d 193 1 [v0, v1, v2, v3] [.int 1] h Q = ex_ X d 193 54 [v0, v1, v2, v3] [] h Q := R_lsw (off := 53) (show mx_at 193 1 = some (.lookupswitch 111 #[(0, 35), (1, 53), (6, 81)], 35) by decide +kernel) (by decide) (by decide) rfl
set_option maxRecDepth 20000 in
theorem i193_1_6 : ex_ X d 193 1 [v0, v1, v2, v3] [.int 6] h Q = ex_ X d 193 82 [v0, v1, v2, v3] [] h Q := R_lsw (off := 81) (show mx_at 193 1 = some (.lookupswitch 111 #[(0, 35), (1, 53), (6, 81)], 35) by decide +kernel) (by decide) (by decide) rfl
set_option maxRecDepth 20000 in
theorem i193_1_d (hx : 0 ≠ x.toInt ∧ 1 ≠ x.toInt ∧ 6 ≠ x.toInt) : ex_ X d 193 1 [v0, v1, v2, v3] [.int x] h Q = ex_ X d 193 112 [v0, v1, v2, v3] [] h Q := R_lsw (off := 111) (show mx_at 193 1 = some (.lookupswitch 111 #[(0, 35), (1, 53), (6, 81)], 35) by decide +kernel) (by decide) (by simp [Op.lookupswitch.offset, hx]) rfl
set_option maxRecDepth 20000 in
theorem i193_36 : ex_ X d 193 36 [.ref a, v1, v2, v3] [] h Q = ex_ X d 193 37 [.ref a, v1, v2, v3] [.ref a] h Q := ex_nx (show mx_at 193 36 = some (.aload_n 0, 1) by decide +kernel) rfl
set_option maxRecDepth 20000 in
theorem i193_37 : ex_ X d 193 37 [v0, v1, v2, v3] [w0] h Q = ex_ X d 193 39 [v0, v1, v2, v3] [.int 11, w0] h Q := R_bipush (show mx_at 193 37 = some (.bipush 11, 2) by decide +kernel) (by decide)
set_option maxRecDepth 20000 in
theorem i193_39 (hc : co_ h a = some 12) : ex_ X (d + 1) 193 39 [v0, v1, v2, v3] [.int x0, .ref a] h Q = ev_ X d 189 [.ref a, .int x0] h (fun r h' => ex_ X (d + 1) 193 42 [v0, v1, v2, v3] (r.toList ++ []) h' Q) := R_vir (show mx_at 193 39 = some (.invokevirtual 267, 3) by decide +kernel) (mx_clk ow193 cc12_267) (Nat.le_of_ble_eq_true rfl) rfl rfl hc rfl (Nat.le_of_ble_eq_true rfl) (Nat.le_of_ble_eq_true rfl) (by rw [ml189]; exact Nat.le_of_ble_eq_true rfl)
set_option maxRecDepth 20000 in
theorem i193_42 : ex_ X d 193 42 [.ref a, v1, v2, v3] [] h Q = ex_ X d 193 43 [.ref a, v1, v2, v3] [.ref a] h Q := ex_nx (show mx_at 193 42 = some (.aload_n 0, 1) by decide +kernel) rfl
set_option maxRecDepth 20000 in
theorem i193_43 : ex_ X d 193 43 [.ref a, v1, v2, v3] [w0] h Q = ex_ X d 193 44 [.ref a, v1, v2, v3] [.ref a, w0] h Q := ex_nx (show mx_at 193 43 = some (.aload_n 0, 1) by decide +kernel) rfl
set_option maxRecDepth 20000 in
theorem i193_44 (hc : co_ h a = some 12) : ex_ X (d + 1) 193 44 [v0, v1, v2, v3] [.ref a, w0] h Q = ev_ X d 191 [.ref a] h (fun r h' => ex_ X (d + 1) 193 47 [v0, v1, v2, v3] (r.toList ++ [w0]) h' Q) := R_vir (show mx_at 193 44 = some (.invokevirtual 276, 3) by decide +kernel) (mx_clk ow193 cc12_276) (Nat.le_of_ble_eq_true rfl) rfl rfl hc rfl (Nat.le_of_ble_eq_true rfl) (Nat.le_of_ble_eq_true rfl) (by rw [ml191]; exact Nat.le_of_ble_eq_true rfl)
set_option maxRecDepth 20000 in
theorem i193_47 : ex_ X d 193 47 [v0, v1, .int x, v3] [w0, w1] h Q = ex_ X d 193 48 [v0, v1, .int x, v3] [.int x, w0, w1] h Q := ex_nx (show mx_at 193 47 = some (.iload_n 2, 1) by decide +kernel) rfl
set_option maxRecDepth 20000 in
theorem i193_48 (hc : co_ h a = some 12) : ex_ X (d + 1) 193 48 [v0, v1, v2, v3] [.int x1, .int x0, .ref a] h Q = ev_ X d 192 [.ref a, .int x0, .int x1] h (fun r h' => ex_ X (d + 1) 193 51 [v0, v1, v2, v3] (r.toList ++ []) h' Q) := R_vir (show mx_at 193 48 = some (.invokevirtual 273, 3) by decide +kernel) (mx_clk ow193 cc12_273) (Nat.le_of_ble_eq_true rfl) rfl rfl hc rfl (Nat.le_of_ble_eq_true rfl) (Nat.le_of_ble_eq_true rfl) (by rw [ml192]; exact Nat.le_of_ble_eq_true rfl)
set_option maxRecDepth 20000 in
theorem i193_51 : ex_ X d 193 51 [v0, v1, v2, v3] [w0] h Q = ex_ X d 193 52 [v0, v1, v2, v3] [.int 2, w0] h Q := R_iconst (show mx_at 193 51 = some (.iconst 2, 1) by decide +kernel) (by decide)
set_option maxRecDepth 20000 in
theorem i193_52 : ex_ X d 193 52 [v0, v1, v2, v3] [.int y, .int x] h Q = ex_ X d 193 53 [v0, v1, v2, v3] [.int (x * y)] h Q := ex_nx (show mx_at 193 52 = some (.imul, 1) by decide +kernel) rfl
set_option maxRecDepth 20000 in
theorem i193_53 : ex_ X d 193 53 [v0, v1, v2, v3] [.int x] h Q = Q (some (.int x)) h := ex_ret (show mx_at 193 53 = some (.ireturn, 1) by decide +kernel) (mx_retI rt193)
set_option maxRecDepth 20000 in
theorem i193_54 : ex_ X d 193 54 [.ref a, v1, v2, v3] [] h Q = ex_ X d 193 55 [.ref a, v1, v2, v3] [.ref a] h Q := ex_nx (show mx_at 193 54 = some (.aload_n 0, 1) by decide +kernel) rfl
set_option maxRecDepth 20000 in
theorem i193_55 : ex_ X d 193 55 [v0, v1, v2, v3] [w0] h Q = ex_ X d 193 57 [v0, v1, v2, v3] [.int 20, w0] h Q := R_bipush (show mx_at 193 55 = some (.bipush 20, 2) by decide +kernel) (by decide)
set_option maxRecDepth 20000 in
theorem i193_57 (hc : co_ h a = some 12) : ex_ X (d + 1) 193 57 [v0, v1, v2, v3] [.int x0, .ref a] h Q = ev_ X d 189 [.ref a, .int x0] h (fun r h' => ex_ X (d + 1) 193 60 [v0, v1, v2, v3] (r.toList ++ []) h' Q) := R_vir (show mx_at 193 57 = some (.invokevirtual 267, 3) by decide +kernel) (mx_clk ow193 cc12_267) (Nat.le_of_ble_eq_true rfl) rfl rfl hc rfl (Nat.le_of_ble_eq_true rfl) (Nat.le_of_ble_eq_true rfl) (by rw [ml189]; exact Nat.le_of_ble_eq_true rfl)
set_option maxRecDepth 20000 in
theorem i193_60 : ex_ X d 193 60 [.ref a, v1, v2, v3] [] h Q = ex_ X d 193 61 [.ref a, v1, v2, v3] [.ref a] h Q := ex_nx (show mx_at 193 60 = some (.aload_n 0, 1) by decide +kernel) rfl
set_option maxRecDepth 20000 in
theorem i193_61 : ex_ X d 193 61 [v0, v1, v2, v3] [w0] h Q = ex_ X d 193 62 [v0, v1, v2, v3] [.int 1, w0] h Q := R_iconst (show mx_at 193 61 = some (.iconst 1, 1) by decide +kernel) (by decide)
set_option maxRecDepth 20000 in
theorem i193_62 : ex_ X (d + 1) 193 62 [v0, v1, v2, v3] [.int x0, w0] h Q = ev_ X d 190 [.int x0] h (fun r h' => ex_ X (d + 1) 193 65 [v0, v1, v2, v3] (r.toList ++ [w0]) h' Q) := R_stat (show mx_at 193 62 = some (.invokestatic 270, 3) by decide +kernel) (mx_clk ow193 cc12_270) (Nat.le_of_ble_eq_true rfl) rfl rfl (Nat.le_of_ble_eq_true rfl) ml190 (Nat.le_of_ble_eq_true rfl)
set_option maxRecDepth 20000 in
theorem i193_65 : ex_ X d 193 65 [v0, v1, .int x, v3] [w0, w1] h Q = ex_ X d 193 66 [v0, v1, .int x, v3] [.int x, w0, w1] h Q := ex_nx (show mx_at 193 65 = some (.iload_n 2, 1) by decide +kernel) rfl
set_option maxRecDepth 20000 in
theorem i193_66 (hc : co_ h a = some 12) : ex_ X (d + 1) 193 66 [v0, v1, v2, v3] [.int x1, .int x0, .ref a] h Q = ev_ X d 193 [.ref a, .int x0, .int x1] h (fun r h' => ex_ X (d + 1) 193 69 [v0, v1, v2, v3] (r.toList ++ []) h' Q) := R_vir (show mx_at 193 66 = some (.invokevirtual 279, 3) by decide +kernel) (mx_clk ow193 cc12_279) (Nat.le_of_ble_eq_true rfl) rfl rfl hc rfl (Nat.le_of_ble_eq_true rfl) (Nat.le_of_ble_eq_true rfl) (by rw [ml193]; exact Nat.le_of_ble_eq_true rfl)
set_option maxRecDepth 20000 in
theorem i193_69 : ex_ X d 193 69 [v0, v1, v2, v3] [.int x] h Q = (mx_nl v2 = true ∧ ex_ X d 193 70 [v0, v1, v2, .int x] [] h Q) := mx_t1 (R_st (ok := mx_isI) (n := 3) (w := 1) (show mx_at 193 69 = some (.istore_n 3, 1) by decide +kernel) (fun _ _ => rfl) (Nat.le_of_ble_eq_true rfl)) rfl
set_option maxRecDepth 20000 in
theorem i193_70 : ex_ X d 193 70 [v0, v1, v2, .int x] [] h Q = ex_ X d 193 71 [v0, v1, v2, .int x] [.int x] h Q := ex_nx (show mx_at 193 70 = some (.iload_n 3, 1) by decide +kernel) rfl
set_option maxRecDepth 20000 in
theorem i193_71 : ex_ X d 193 71 [.ref a, v1, v2, v3] [w0] h Q = ex_ X d 193 72 [.ref a, v1, v2, v3] [.ref a, w0] h Q := ex_nx (show mx_at 193 71 = some (.aload_n 0, 1) by decide +kernel) rfl
set_option maxRecDepth 20000 in
theorem i193_72 : ex_ X d 193 72 [.ref a, v1, v2, v3] [w0, w1] h Q = ex_ X d 193 73 [.ref a, v1, v2, v3] [.ref a, w0, w1] h Q := ex_nx (show mx_at 193 72 = some (.aload_n 0, 1) by decide +kernel) rfl
set_option maxRecDepth 20000 in
theorem i193_73 (hc : co_ h a = some 12) : ex_ X (d + 1) 193 73 [v0, v1, v2, v3] [.ref a, w0, w1] h Q = ev_ X d 191 [.ref a] h (fun r h' => ex_ X (d + 1) 193 76 [v0, v1, v2, v3] (r.toList ++ [w0, w1]) h' Q) := R_vir (show mx_at 193 73 = some (.invokevirtual 276, 3) by decide +kernel) (mx_clk ow193 cc12_276) (Nat.le_of_ble_eq_true rfl) rfl rfl hc rfl (Nat.le_of_ble_eq_true rfl) (Nat.le_of_ble_eq_true rfl) (by rw [ml191]; exact Nat.le_of_ble_eq_true rfl)
set_option maxRecDepth 20000 in
theorem i193_76 : ex_ X d 193 76 [v0, v1, v2, v3] [w0, w1, w2] h Q = ex_ X d 193 77 [v0, v1, v2, v3] [.int 1, w0, w1, w2] h Q := R_iconst (show mx_at 193 76 = some (.iconst 1, 1) by decide +kernel) (by decide)
set_option maxRecDepth 20000 in
theorem i193_77 (hc : co_ h a = some 12) : ex_ X (d + 1) 193 77 [v0, v1, v2, v3] [.int x1, .int x0, .ref a, w0] h Q = ev_ X d 194 [.ref a, .int x0, .int x1] h (fun r h' => ex_ X (d + 1) 193 80 [v0, v1, v2, v3] (r.toList ++ [w0]) h' Q) := R_vir (show mx_at 193 77 = some (.invokevirtual 282, 3) by decide +kernel) (mx_clk ow193 cc12_282) (Nat.le_of_ble_eq_true rfl) rfl rfl hc rfl (Nat.le_of_ble_eq_true rfl) (Nat.le_of_ble_eq_true rfl) (by rw [ml194]; exact Nat.le_of_ble_eq_true rfl)
set_option maxRecDepth 20000 in
theorem i193_80 : ex_ X d 193 80 [v0, v1, v2, v3] [.int y, .int x] h Q = ex_ X d 193 81 [v0, v1, v2, v3] [.int (x - y)] h Q := ex_nx (show mx_at 193 80 = some (.isub, 1) by decide +kernel) rfl
set_option maxRecDepth 20000 in
theorem i193_81 : ex_ X d 193 81 [v0, v1, v2, v3] [.int x] h Q = Q (some (.int x)) h := ex_ret (show mx_at 193 81 = some (.ireturn, 1) by decide +kernel) (mx_retI rt193)
set_option maxRecDepth 20000 in
theorem i193_82 : ex_ X d 193 82 [.ref a, v1, v2, v3] [] h Q = ex_ X d 193 83 [.ref a, v1, v2, v3] [.ref a] h Q := ex_nx (show mx_at 193 82 = some (.aload_n 0, 1) by decide +kernel) rfl
set_option maxRecDepth 20000 in
theorem i193_83 : ex_ X d 193 83 [v0, v1, v2, v3] [w0] h Q = ex_ X d 193 85 [v0, v1, v2, v3] [.int 70, w0] h Q := R_bipush (show mx_at 193 83 = some (.bipush 70, 2) by decide +kernel) (by decide)
set_option maxRecDepth 20000 in
theorem i193_85 (hc : co_ h a = some 12) : ex_ X (d + 1) 193 85 [v0, v1, v2, v3] [.int x0, .ref a] h Q = ev_ X d 189 [.ref a, .int x0] h (fun r h' => ex_ X (d + 1) 193 88 [v0, v1, v2, v3] (r.toList ++ []) h' Q) := R_vir (show mx_at 193 85 = some (.invokevirtual 267, 3) by decide +kernel) (mx_clk ow193 cc12_267) (Nat.le_of_ble_eq_true rfl) rfl rfl hc rfl (Nat.le_of_ble_eq_true rfl) (Nat.le_of_ble_eq_true rfl) (by rw [ml189]; exact Nat.le_of_ble_eq_true rfl)
set_option maxRecDepth 20000 in
theorem i193_88 : ex_ X d 193 88 [.ref a, v1, v2, v3] [] h Q = ex_ X d 193 89 [.ref a, v1, v2, v3] [.ref a] h Q := ex_nx (show mx_at 193 88 = some (.aload_n 0, 1) by decide +kernel) rfl
set_option maxRecDepth 20000 in
theorem i193_89 : ex_ X d 193 89 [v0, v1, v2, v3] [w0] h Q = ex_ X d 193 91 [v0, v1, v2, v3] [.int 6, w0] h Q := R_bipush (show mx_at 193 89 = some (.bipush 6, 2) by decide +kernel) (by decide)
set_option maxRecDepth 20000 in
theorem i193_91 : ex_ X (d + 1) 193 91 [v0, v1, v2, v3] [.int x0, w0] h Q = ev_ X d 190 [.int x0] h (fun r h' => ex_ X (d + 1) 193 94 [v0, v1, v2, v3] (r.toList ++ [w0]) h' Q) := R_stat (show mx_at 193 91 = some (.invokestatic 270, 3) by decide +kernel) (mx_clk ow193 cc12_270) (Nat.le_of_ble_eq_true rfl) rfl rfl (Nat.le_of_ble_eq_true rfl) ml190 (Nat.le_of_ble_eq_true rfl)
set_option maxRecDepth 20000 in
theorem i193_94 : ex_ X d 193 94 [v0, v1, .int x, v3] [w0, w1] h Q = ex_ X d 193 95 [v0, v1, .int x, v3] [.int x, w0, w1] h Q := ex_nx (show mx_at 193 94 = some (.iload_n 2, 1) by decide +kernel) rfl
set_option maxRecDepth 20000 in
theorem i193_95 (hc : co_ h a = some 12) : ex_ X (d + 1) 193 95 [v0, v1, v2, v3] [.int x1, .int x0, .ref a] h Q = ev_ X d 193 [.ref a, .int x0, .int x1] h (fun r h' => ex_ X (d + 1) 193 98 [v0, v1, v2, v3] (r.toList ++ []) h' Q) := R_vir (show mx_at 193 95 = some (.invokevirtual 279, 3) by decide +kernel) (mx_clk ow193 cc12_279) (Nat.le_of_ble_eq_true rfl) rfl rfl hc rfl (Nat.le_of_ble_eq_true rfl) (Nat.le_of_ble_eq_true rfl) (by rw [ml193]; exact Nat.le_of_ble_eq_true rfl)
set_option maxRecDepth 20000 in
theorem i193_98 : ex_ X d 193 98 [.ref a, v1, v2, v3] [w0] h Q = ex_ X d 193 99 [.ref a, v1, v2, v3] [.ref a, w0] h Q := ex_nx (show mx_at 193 98 = some (.aload_n 0, 1) by decide +kernel) rfl
set_option maxRecDepth 20000 in
theorem i193_99 : ex_ X d 193 99 [v0, v1, v2, v3] [.ref a, w0] h Q = (gk_ h a 0 [(12, 0)] = true ∧ ex_ X d 193 102 [v0, v1, v2, v3] [gv_ h a 0, w0] h Q) := R_getf (show mx_at 193 99 = some (.getfield 7, 3) by decide +kernel) (mx_fdo ow193 fd120007)
set_option maxRecDepth 20000 in
theorem i193_102 : ex_ X d 193 102 [.ref a, v1, v2, v3] [w0, w1] h Q = ex_ X d 193 103 [.ref a, v1, v2, v3] [.ref a, w0, w1] h Q := ex_nx (show mx_at 193 102 = some (.aload_n 0, 1) by decide +kernel) rfl
set_option maxRecDepth 20000 in
theorem i193_103 : ex_ X d 193 103 [v0, v1, v2, v3] [.ref a, w0, w1] h Q = (gk_ h a 19 [(12, 0)] = true ∧ ex_ X d 193 106 [v0, v1, v2, v3] [gv_ h a 19, w0, w1] h Q) := R_getf (show mx_at 193 103 = some (.getfield 264, 3) by decide +kernel) (mx_fdo ow193 fd120264)
set_option maxRecDepth 20000 in
theorem i193_106 : ex_ X d 193 106 [v0, v1, v2, v3] [w0, w1, w2] h Q = ex_ X d 193 107 [v0, v1, v2, v3] [.int 1, w0, w1, w2] h Q := R_iconst (show mx_at 193 106 = some (.iconst 1, 1) by decide +kernel) (by decide)
set_option maxRecDepth 20000 in
theorem i193_107 : ex_ X (d + 1) 193 107 [v0, v1, v2, v3] [.int x2, .int x1, .ref a0, w0] h Q = ev_ X d 129 [.ref a0, .int x1, .int x2] h (fun r h' => ex_ X (d + 1) 193 110 [v0, v1, v2, v3] (r.toList ++ [w0]) h' Q) := R_stat (show mx_at 193 107 = some (.invokestatic 154, 3) by decide +kernel) (mx_clk ow193 cc12_154) (Nat.le_of_ble_eq_true rfl) rfl rfl (Nat.le_of_ble_eq_true rfl) ml129 (Nat.le_of_ble_eq_true rfl)
set_option maxRecDepth 20000 in
theorem i193_110 : ex_ X d 193 110 [v0, v1, v2, v3] [.int y, .int x] h Q = ex_ X d 193 111 [v0, v1, v2, v3] [.int (x + y)] h Q := ex_nx (show mx_at 193 110 = some (.iadd, 1) by decide +kernel) rfl
set_option maxRecDepth 20000 in
theorem i193_111 : ex_ X d 193 111 [v0, v1, v2, v3] [.int x] h Q = Q (some (.int x)) h := ex_ret (show mx_at 193 111 = some (.ireturn, 1) by decide +kernel) (mx_retI rt193)
set_option maxRecDepth 20000 in
theorem i193_112 : ex_ X d 193 112 [.ref a, v1, v2, v3] [] h Q = ex_ X d 193 113 [.ref a, v1, v2, v3] [.ref a] h Q := ex_nx (show mx_at 193 112 = some (.aload_n 0, 1) by decide +kernel) rfl
set_option maxRecDepth 20000 in
theorem i193_113 : ex_ X d 193 113 [v0, .int x, v2, v3] [w0] h Q = ex_ X d 193 114 [v0, .int x, v2, v3] [.int x, w0] h Q := ex_nx (show mx_at 193 113 = some (.iload_n 1, 1) by decide +kernel) rfl
set_option maxRecDepth 20000 in
theorem i193_114 : ex_ X (d + 1) 193 114 [v0, v1, v2, v3] [.int x0, w0] h Q = ev_ X d 190 [.int x0] h (fun r h' => ex_ X (d + 1) 193 117 [v0, v1, v2, v3] (r.toList ++ [w0]) h' Q) := R_stat (show mx_at 193 114 = some (.invokestatic 270, 3) by decide +kernel) (mx_clk ow193 cc12_270) (Nat.le_of_ble_eq_true rfl) rfl rfl (Nat.le_of_ble_eq_true rfl) ml190 (Nat.le_of_ble_eq_true rfl)
set_option maxRecDepth 20000 in
theorem i193_117 : ex_ X d 193 117 [v0, v1, .int x, v3] [w0, w1] h Q = ex_ X d 193 118 [v0, v1, .int x, v3] [.int x, w0, w1] h Q := ex_nx (show mx_at 193 117 = some (.iload_n 2, 1) by decide +kernel) rfl
set_option maxRecDepth 20000 in
theorem i193_118 (hc : co_ h a = some 12) : ex_ X (d + 1) 193 118 [v0, v1, v2, v3] [.int x1, .int x0, .ref a] h Q = ev_ X d 193 [.ref a, .int x0, .int x1] h (fun r h' => ex_ X (d + 1) 193 121 [v0, v1, v2, v3] (r.toList ++ []) h' Q) := R_vir (show mx_at 193 118 = some (.invokevirtual 279, 3) by decide +kernel) (mx_clk ow193 cc12_279) (Nat.le_of_ble_eq_true rfl) rfl rfl hc rfl (Nat.le_of_ble_eq_true rfl) (Nat.le_of_ble_eq_true rfl) (by rw [ml193]; exact Nat.le_of_ble_eq_true rfl)
set_option maxRecDepth 20000 in
theorem i193_121 : ex_ X d 193 121 [v0, v1, v2, v3] [.int x] h Q = Q (some (.int x)) h := ex_ret (show mx_at 193 121 = some (.ireturn, 1) by decide +kernel) (mx_retI rt193)
theorem i193_e : ev_ X d 193 [.ref a, .int x0, .int x1] h Q = ex_ X d 193 0 [.ref a, .int x0, .int x1, .double 0] [] h Q := by rw [ev_, ml193]; rfl
-- 194 X12_holdsOf
set_option maxRecDepth 20000 in
theorem i194_0 : ex_ X d 194 0 [v0, .int x, v2] [] h Q = ex_ X d 194 1 [v0, .int x, v2] [.int x] h Q := ex_nx (show mx_at 194 0 = some (.iload_n 1, 1) by decide +kernel) rfl
set_option maxRecDepth 20000 in
theorem i194_1_0 : ex_ X d 194 1 [v0, v1, v2] [.int 0] h Q = ex_ X d 194 36 [v0, v1, v2] [] h Q := R_lsw (off := 35) (show mx_at 194 1 = some (.lookupswitch 94 #[(0, 35), (3, 56), (5, 73)], 35) by decide +kernel) (by decide) (by decide) rfl
set_option maxRecDepth 20000 in
theorem i194_1_3 : ex_ X d 194 1 [v0, v1, v2] [.int 3] h Q = ex_ X d 194 57 [v0, v1, v2] [] h Q := R_lsw (off := 56) (show mx_at 194 1 = some (.lookupswitch 94 #[(0, 35), (3, 56), (5, 73)], 35) by decide +kernel) (by decide) (by decide) rfl
set_option maxRecDepth 20000 in
theorem i194_1_5 : ex_ X d 194 1 [v0, v1, v2] [.int 5] h Q = ex_ X d 194 74 [v0, v1, v2] [] h Q := R_lsw (off := 73) (show mx_at 194 1 = some (.lookupswitch 94 #[(0, 35), (3, 56), (5, 73)], 35) by decide +kernel) (by decide) (by decide) rfl
set_option maxRecDepth 20000 in
theorem i194_1_d (hx : 0 ≠ x.toInt ∧ 3 ≠ x.toInt ∧ 5 ≠ x.toInt) : ex_ X d 194 1 [v0, v1, v2] [.int x] h Q = ex_ X d 194 95 [v0, v1, v2] [] h Q := R_lsw (off := 94) (show mx_at 194 1 = some (.lookupswitch 94 #[(0, 35), (3, 56), (5, 73)], 35) by decide +kernel) (by decide) (by simp [Op.lookupswitch.offset, hx]) rfl
set_option maxRecDepth 20000 in
theorem i194_36 : ex_ X d 194 36 [.ref a, v1, v2] [] h Q = ex_ X d 194 37 [.ref a, v1, v2] [.ref a] h Q := ex_nx (show mx_at 194 36 = some (.aload_n 0, 1) by decide +kernel) rfl
set_option maxRecDepth 20000 in
theorem i194_37 : ex_ X d 194 37 [v0, v1, v2] [w0] h Q = ex_ X d 194 39 [v0, v1, v2] [.int 12, w0] h Q := R_bipush (show mx_at 194 37 = some (.bipush 12, 2) by decide +kernel) (by decide)
set_option maxRecDepth 20000 in
theorem i194_39 (hc : co_ h a = some 12) : ex_ X (d + 1) 194 39 [v0, v1, v2] [.int x0, .ref a] h Q = ev_ X d 189 [.ref a, .int x0] h (fun r h' => ex_ X (d + 1) 194 42 [v0, v1, v2] (r.toList ++ []) h' Q) := R_vir (show mx_at 194 39 = some (.invokevirtual 267, 3) by decide +kernel) (mx_clk ow194 cc12_267) (Nat.le_of_ble_eq_true rfl) rfl rfl hc rfl (Nat.le_of_ble_eq_true rfl) (Nat.le_of_ble_eq_true rfl) (by rw [ml189]; exact Nat.le_of_ble_eq_true rfl)
set_option maxRecDepth 20000 in
theorem i194_42 : ex_ X d 194 42 [v0, v1, .int x] [] h Q = ex_ X d 194 43 [v0, v1, .int x] [.int x] h Q := ex_nx (show mx_at 194 42 = some (.iload_n 2, 1) by decide +kernel) rfl
set_option maxRecDepth 20000 in
theorem i194_43 : ex_ X d 194 43 [.ref a, v1, v2] [w0] h Q = ex_ X d 194 44 [.ref a, v1, v2] [.ref a, w0] h Q := ex_nx (show mx_at 194 43 = some (.aload_n 0, 1) by decide +kernel) rfl
set_option maxRecDepth 20000 in
theorem i194_44 : ex_ X d 194 44 [v0, v1, v2] [.ref a, w0] h Q = (gk_ h a 0 [(12, 0)] = true ∧ ex_ X d 194 47 [v0, v1, v2] [gv_ h a 0, w0] h Q) := R_getf (show mx_at 194 44 = some (.getfield 7, 3) by decide +kernel) (mx_fdo ow194 fd120007)
set_option maxRecDepth 20000 in
theorem i194_47 : ex_ X d 194 47 [.ref a, v1, v2] [w0, w1] h Q = ex_ X d 194 48 [.ref a, v1, v2] [.ref a, w0, w1] h Q := ex_nx (show mx_at 194 47 = some (.aload_n 0, 1) by decide +kernel) rfl
set_option maxRecDepth 20000 in
theorem i194_48 : ex_ X d 194 48 [v0, v1, v2] [.ref a, w0, w1] h Q = (gk_ h a 19 [(12, 0)] = true ∧ ex_ X d 194 51 [v0, v1, v2] [gv_ h a 19, w0, w1] h Q) := R_getf (show mx_at 194 48 = some (.getfield 264, 3) by decide +kernel) (mx_fdo ow194 fd120264)
set_option maxRecDepth 20000 in
theorem i194_51 : ex_ X d 194 51 [v0, v1, v2] [w0, w1, w2] h Q = ex_ X d 194 52 [v0, v1, v2] [.int 1, w0, w1, w2] h Q := R_iconst (show mx_at 194 51 = some (.iconst 1, 1) by decide +kernel) (by decide)
set_option maxRecDepth 20000 in
theorem i194_52 : ex_ X (d + 1) 194 52 [v0, v1, v2] [.int x2, .int x1, .ref a0, w0] h Q = ev_ X d 129 [.ref a0, .int x1, .int x2] h (fun r h' => ex_ X (d + 1) 194 55 [v0, v1, v2] (r.toList ++ [w0]) h' Q) := R_stat (show mx_at 194 52 = some (.invokestatic 154, 3) by decide +kernel) (mx_clk ow194 cc12_154) (Nat.le_of_ble_eq_true rfl) rfl rfl (Nat.le_of_ble_eq_true rfl) ml129 (Nat.le_of_ble_eq_true rfl)
set_option maxRecDepth 20000 in
theorem i194_55 : ex_ X d 194 55 [v0, v1, v2] [.int y, .int x] h Q = ex_ X d 194 56 [v0, v1, v2] [.int (x - y)] h Q := ex_nx (show mx_at 194 55 = some (.isub, 1) by decide +kernel) rfl
set_option maxRecDepth 20000 in
theorem i194_56 : ex_ X d 194 56 [v0, v1, v2] [.int x] h Q = Q (some (.int x)) h := ex_ret (show mx_at 194 56 = some (.ireturn, 1) by decide +kernel) (mx_retI rt194)
set_option maxRecDepth 20000 in
theorem i194_57 : ex_ X d 194 57 [.ref a, v1, v2] [] h Q = ex_ X d 194 58 [.ref a, v1, v2] [.ref a] h Q := ex_nx (show mx_at 194 57 = some (.aload_n 0, 1) by decide +kernel) rfl
set_option maxRecDepth 20000 in
theorem i194_58 : ex_ X d 194 58 [v0, v1, v2] [w0] h Q = ex_ X d 194 60 [v0, v1, v2] [.int 40, w0] h Q := R_bipush (show mx_at 194 58 = some (.bipush 40, 2) by decide +kernel) (by decide)
set_option maxRecDepth 20000 in
theorem i194_60 (hc : co_ h a = some 12) : ex_ X (d + 1) 194 60 [v0, v1, v2] [.int x0, .ref a] h Q = ev_ X d 189 [.ref a, .int x0] h (fun r h' => ex_ X (d + 1) 194 63 [v0, v1, v2] (r.toList ++ []) h' Q) := R_vir (show mx_at 194 60 = some (.invokevirtual 267, 3) by decide +kernel) (mx_clk ow194 cc12_267) (Nat.le_of_ble_eq_true rfl) rfl rfl hc rfl (Nat.le_of_ble_eq_true rfl) (Nat.le_of_ble_eq_true rfl) (by rw [ml189]; exact Nat.le_of_ble_eq_true rfl)
set_option maxRecDepth 20000 in
theorem i194_63 : ex_ X d 194 63 [.ref a, v1, v2] [] h Q = ex_ X d 194 64 [.ref a, v1, v2] [.ref a] h Q := ex_nx (show mx_at 194 63 = some (.aload_n 0, 1) by decide +kernel) rfl
set_option maxRecDepth 20000 in
theorem i194_64 : ex_ X d 194 64 [v0, v1, v2] [w0] h Q = ex_ X d 194 65 [v0, v1, v2] [.int 3, w0] h Q := R_iconst (show mx_at 194 64 = some (.iconst 3, 1) by decide +kernel) (by decide)
set_option maxRecDepth 20000 in
theorem i194_65 : ex_ X (d + 1) 194 65 [v0, v1, v2] [.int x0, w0] h Q = ev_ X d 190 [.int x0] h (fun r h' => ex_ X (d + 1) 194 68 [v0, v1, v2] (r.toList ++ [w0]) h' Q) := R_stat (show mx_at 194 65 = some (.invokestatic 270, 3) by decide +kernel) (mx_clk ow194 cc12_270) (Nat.le_of_ble_eq_true rfl) rfl rfl (Nat.le_of_ble_eq_true rfl) ml190 (Nat.le_of_ble_eq_true rfl)
set_option maxRecDepth 20000 in
theorem i194_68 : ex_ X d 194 68 [v0, v1, .int x] [w0, w1] h Q = ex_ X d 194 69 [v0, v1, .int x] [.int x, w0, w1] h Q := ex_nx (show mx_at 194 68 = some (.iload_n 2, 1) by decide +kernel) rfl
set_option maxRecDepth 20000 in
theorem i194_69 (hc : co_ h a = some 12) : ex_ X (d + 1) 194 69 [v0, v1, v2] [.int x1, .int x0, .ref a] h Q = ev_ X d 194 [.ref a, .int x0, .int x1] h (fun r h' => ex_ X (d + 1) 194 72 [v0, v1, v2] (r.toList ++ []) h' Q) := R_vir (show mx_at 194 69 = some (.invokevirtual 282, 3) by decide +kernel) (mx_clk ow194 cc12_282) (Nat.le_of_ble_eq_true rfl) rfl rfl hc rfl (Nat.le_of_ble_eq_true rfl) (Nat.le_of_ble_eq_true rfl) (by rw [ml194]; exact Nat.le_of_ble_eq_true rfl)
set_option maxRecDepth 20000 in
theorem i194_72 : ex_ X d 194 72 [v0, v1, v2] [.int x] h Q = ex_ X d 194 73 [v0, v1, v2] [.int (-x)] h Q := ex_nx (show mx_at 194 72 = some (.ineg, 1) by decide +kernel) rfl
set_option maxRecDepth 20000 in
theorem i194_73 : ex_ X d 194 73 [v0, v1, v2] [.int x] h Q = Q (some (.int x)) h := ex_ret (show mx_at 194 73 = some (.ireturn, 1) by decide +kernel) (mx_retI rt194)
set_option maxRecDepth 20000 in
theorem i194_74 : ex_ X d 194 74 [.ref a, v1, v2] [] h Q = ex_ X d 194 75 [.ref a, v1, v2] [.ref a] h Q := ex_nx (show mx_at 194 74 = some (.aload_n 0, 1) by decide +kernel) rfl
set_option maxRecDepth 20000 in
theorem i194_75 : ex_ X d 194 75 [v0, v1, v2] [w0] h Q = ex_ X d 194 77 [v0, v1, v2] [.int 60, w0] h Q := R_bipush (show mx_at 194 75 = some (.bipush 60, 2) by decide +kernel) (by decide)
set_option maxRecDepth 20000 in
theorem i194_77 (hc : co_ h a = some 12) : ex_ X (d + 1) 194 77 [v0, v1, v2] [.int x0, .ref a] h Q = ev_ X d 189 [.ref a, .int x0] h (fun r h' => ex_ X (d + 1) 194 80 [v0, v1, v2] (r.toList ++ []) h' Q) := R_vir (show mx_at 194 77 = some (.invokevirtual 267, 3) by decide +kernel) (mx_clk ow194 cc12_267) (Nat.le_of_ble_eq_true rfl) rfl rfl hc rfl (Nat.le_of_ble_eq_true rfl) (Nat.le_of_ble_eq_true rfl) (by rw [ml189]; exact Nat.le_of_ble_eq_true rfl)
set_option maxRecDepth 20000 in
theorem i194_80 : ex_ X d 194 80 [.ref a, v1, v2] [] h Q = ex_ X d 194 81 [.ref a, v1, v2] [.ref a] h Q := ex_nx (show mx_at 194 80 = some (.aload_n 0, 1) by decide +kernel) rfl
set_option maxRecDepth 20000 in
theorem i194_81 : ex_ X d 194 81 [v0, v1, v2] [w0] h Q = ex_ X d 194 82 [v0, v1, v2] [.int 5, w0] h Q := R_iconst (show mx_at 194 81 = some (.iconst 5, 1) by decide +kernel) (by decide)
set_option maxRecDepth 20000 in
theorem i194_82 : ex_ X (d + 1) 194 82 [v0, v1, v2] [.int x0, w0] h Q = ev_ X d 190 [.int x0] h (fun r h' => ex_ X (d + 1) 194 85 [v0, v1, v2] (r.toList ++ [w0]) h' Q) := R_stat (show mx_at 194 82 = some (.invokestatic 270, 3) by decide +kernel) (mx_clk ow194 cc12_270) (Nat.le_of_ble_eq_true rfl) rfl rfl (Nat.le_of_ble_eq_true rfl) ml190 (Nat.le_of_ble_eq_true rfl)
set_option maxRecDepth 20000 in
theorem i194_85 : ex_ X d 194 85 [v0, v1, .int x] [w0, w1] h Q = ex_ X d 194 86 [v0, v1, .int x] [.int x, w0, w1] h Q := ex_nx (show mx_at 194 85 = some (.iload_n 2, 1) by decide +kernel) rfl
set_option maxRecDepth 20000 in
theorem i194_86 (hc : co_ h a = some 12) : ex_ X (d + 1) 194 86 [v0, v1, v2] [.int x1, .int x0, .ref a] h Q = ev_ X d 194 [.ref a, .int x0, .int x1] h (fun r h' => ex_ X (d + 1) 194 89 [v0, v1, v2] (r.toList ++ []) h' Q) := R_vir (show mx_at 194 86 = some (.invokevirtual 282, 3) by decide +kernel) (mx_clk ow194 cc12_282) (Nat.le_of_ble_eq_true rfl) rfl rfl hc rfl (Nat.le_of_ble_eq_true rfl) (Nat.le_of_ble_eq_true rfl) (by rw [ml194]; exact Nat.le_of_ble_eq_true rfl)
set_option maxRecDepth 20000 in
theorem i194_89 : ex_ X d 194 89 [.ref a, v1, v2] [w0] h Q = ex_ X d 194 90 [.ref a, v1, v2] [.ref a, w0] h Q := ex_nx (show mx_at 194 89 = some (.aload_n 0, 1) by decide +kernel) rfl
set_option maxRecDepth 20000 in
theorem i194_90 : ex_ X d 194 90 [v0, v1, v2] [.ref a, w0] h Q = (gk_ h a 19 [(12, 0)] = true ∧ ex_ X d 194 93 [v0, v1, v2] [gv_ h a 19, w0] h Q) := R_getf (show mx_at 194 90 = some (.getfield 264, 3) by decide +kernel) (mx_fdo ow194 fd120264)
set_option maxRecDepth 20000 in
theorem i194_93 : ex_ X d 194 93 [v0, v1, v2] [.int y, .int x] h Q = ex_ X d 194 94 [v0, v1, v2] [.int (x ^^^ y)] h Q := ex_nx (show mx_at 194 93 = some (.ixor, 1) by decide +kernel) rfl
set_option maxRecDepth 20000 in
theorem i194_94 : ex_ X d 194 94 [v0, v1, v2] [.int x] h Q = Q (some (.int x)) h := ex_ret (show mx_at 194 94 = some (.ireturn, 1) by decide +kernel) (mx_retI rt194)
set_option maxRecDepth 20000 in
theorem i194_95 : ex_ X d 194 95 [.ref a, v1, v2] [] h Q = ex_ X d 194 96 [.ref a, v1, v2] [.ref a] h Q := ex_nx (show mx_at 194 95 = some (.aload_n 0, 1) by decide +kernel) rfl
set_option maxRecDepth 20000 in
theorem i194_96 : ex_ X d 194 96 [v0, .int x, v2] [w0] h Q = ex_ X d 194 97 [v0, .int x, v2] [.int x, w0] h Q := ex_nx (show mx_at 194 96 = some (.iload_n 1, 1) by decide +kernel) rfl
set_option maxRecDepth 20000 in
theorem i194_97 : ex_ X (d + 1) 194 97 [v0, v1, v2] [.int x0, w0] h Q = ev_ X d 190 [.int x0] h (fun r h' => ex_ X (d + 1) 194 100 [v0, v1, v2] (r.toList ++ [w0]) h' Q) := R_stat (show mx_at 194 97 = some (.invokestatic 270, 3) by decide +kernel) (mx_clk ow194 cc12_270) (Nat.le_of_ble_eq_true rfl) rfl rfl (Nat.le_of_ble_eq_true rfl) ml190 (Nat.le_of_ble_eq_true rfl)
set_option maxRecDepth 20000 in
theorem i194_100 : ex_ X d 194 100 [v0, v1, .int x] [w0, w1] h Q = ex_ X d 194 101 [v0, v1, .int x] [.int x, w0, w1] h Q := ex_nx (show mx_at 194 100 = some (.iload_n 2, 1) by decide +kernel) rfl
set_option maxRecDepth 20000 in
theorem i194_101 (hc : co_ h a = some 12) : ex_ X (d + 1) 194 101 [v0, v1, v2] [.int x1, .int x0, .ref a] h Q = ev_ X d 194 [.ref a, .int x0, .int x1] h (fun r h' => ex_ X (d + 1) 194 104 [v0, v1, v2] (r.toList ++ []) h' Q) := R_vir (show mx_at 194 101 = some (.invokevirtual 282, 3) by decide +kernel) (mx_clk ow194 cc12_282) (Nat.le_of_ble_eq_true rfl) rfl rfl hc rfl (Nat.le_of_ble_eq_true rfl) (Nat.le_of_ble_eq_true rfl) (by rw [ml194]; exact Nat.le_of_ble_eq_true rfl)
set_option maxRecDepth 20000 in
theorem i194_104 : ex_ X d 194 104 [v0, v1, v2] [.int x] h Q = Q (some (.int x)) h := ex_ret (show mx_at 194 104 = some (.ireturn, 1) by decide +kernel) (mx_retI rt194)
theorem i194_e : ev_ X d 194 [.ref a, .int x0, .int x1] h Q = ex_ X d 194 0 [.ref a, .int x0, .int x1] [] h Q := by rw [ev_, ml194]; rfl
-- 195 X12_tells
set_option maxRecDepth 20000 in
theorem i195_0 : ex_ X d 195 0 [v0, .int x, v2, v3] [] h Q = ex_ X d 195 1 [v0, .int x, v2, v3] [.int x] h Q := ex_nx (show mx_at 195 0 = some (.iload_n 1, 1) by decide +kernel) rfl
set_option maxRecDepth 20000 in
theorem i195_1_0 : ex_ X d 195 1 [v0, v1, v2, v3] [.int 0] h Q = ex_ X d 195 36 [v0, v1, v2, v3] [] h Q := R_lsw (off := 35) (show mx_at 195 1 = some (.lookupswitch 120 #[(0, 35), (4, 63), (6, 91)], 35) by decide +kernel) (by decide) (by decide) rfl
set_option maxRecDepth 20000 in
theorem i195_1_4 : ex_ X d 195 1 [v0, v1, v2, v3] [.int 4] h Q = ex_ X d 195 64 [v0, v1, v2, v3] [] h Q := R_lsw (off := 63) (show mx_at 195 1 = some (.lookupswitch 120 #[(0, 35), (4, 63), (6, 91)], 35) by decide +kernel) (by decide) (by decide) rfl
set_option maxRecDepth 20000 in
theorem i195_1_6 : ex_ X d 195 1 [v0, v1, v2, v3] [.int 6] h Q = ex_ X d 195 92 [v0, v1, v2, v3] [] h Q := R_lsw (off := 91) (show mx_at 195 1 = some (.lookupswitch 120 #[(0, 35), (4, 63), (6, 91)], 35) by decide +kernel) (by decide) (by decide) rfl
set_option maxRecDepth 20000 in
theorem i195_1_d (hx : 0 ≠ x.toInt ∧ 4 ≠ x.toInt ∧ 6 ≠ x.toInt) : ex_ X d 195 1 [v0, v1, v2, v3] [.int x] h Q = ex_ X d 195 121 [v0, v1, v2, v3] [] h Q := R_lsw (off := 120) (show mx_at 195 1 = some (.lookupswitch 120 #[(0, 35), (4, 63), (6, 91)], 35) by decide +kernel) (by decide) (by simp [Op.lookupswitch.offset, hx]) rfl
set_option maxRecDepth 20000 in
theorem i195_36 : ex_ X d 195 36 [.ref a, v1, v2, v3] [] h Q = ex_ X d 195 37 [.ref a, v1, v2, v3] [.ref a] h Q := ex_nx (show mx_at 195 36 = some (.aload_n 0, 1) by decide +kernel) rfl
set_option maxRecDepth 20000 in
theorem i195_37 : ex_ X d 195 37 [v0, v1, v2, v3] [w0] h Q = ex_ X d 195 39 [v0, v1, v2, v3] [.int 13, w0] h Q := R_bipush (show mx_at 195 37 = some (.bipush 13, 2) by decide +kernel) (by decide)
set_option maxRecDepth 20000 in
theorem i195_39 (hc : co_ h a = some 12) : ex_ X (d + 1) 195 39 [v0, v1, v2, v3] [.int x0, .ref a] h Q = ev_ X d 189 [.ref a, .int x0] h (fun r h' => ex_ X (d + 1) 195 42 [v0, v1, v2, v3] (r.toList ++ []) h' Q) := R_vir (show mx_at 195 39 = some (.invokevirtual 267, 3) by decide +kernel) (mx_clk ow195 cc12_267) (Nat.le_of_ble_eq_true rfl) rfl rfl hc rfl (Nat.le_of_ble_eq_true rfl) (Nat.le_of_ble_eq_true rfl) (by rw [ml189]; exact Nat.le_of_ble_eq_true rfl)
set_option maxRecDepth 20000 in
theorem i195_42 : ex_ X d 195 42 [.ref a, v1, v2, v3] [] h Q = ex_ X d 195 43 [.ref a, v1, v2, v3] [.ref a] h Q := ex_nx (show mx_at 195 42 = some (.aload_n 0, 1) by decide +kernel) rfl
set_option maxRecDepth 20000 in
theorem i195_43 : ex_ X d 195 43 [.ref a, v1, v2, v3] [w0] h Q = ex_ X d 195 44 [.ref a, v1, v2, v3] [.ref a, w0] h Q := ex_nx (show mx_at 195 43 = some (.aload_n 0, 1) by decide +kernel) rfl
set_option maxRecDepth 20000 in
theorem i195_44 (hc : co_ h a = some 12) : ex_ X (d + 1) 195 44 [v0, v1, v2, v3] [.ref a, w0] h Q = ev_ X d 191 [.ref a] h (fun r h' => ex_ X (d + 1) 195 47 [v0, v1, v2, v3] (r.toList ++ [w0]) h' Q) := R_vir (show mx_at 195 44 = some (.invokevirtual 276, 3) by decide +kernel) (mx_clk ow195 cc12_276) (Nat.le_of_ble_eq_true rfl) rfl rfl hc rfl (Nat.le_of_ble_eq_true rfl) (Nat.le_of_ble_eq_true rfl) (by rw [ml191]; exact Nat.le_of_ble_eq_true rfl)
set_option maxRecDepth 20000 in
theorem i195_47 : ex_ X d 195 47 [v0, v1, .int x, v3] [w0, w1] h Q = ex_ X d 195 48 [v0, v1, .int x, v3] [.int x, w0, w1] h Q := ex_nx (show mx_at 195 47 = some (.iload_n 2, 1) by decide +kernel) rfl
set_option maxRecDepth 20000 in
theorem i195_48 (hc : co_ h a = some 12) : ex_ X (d + 1) 195 48 [v0, v1, v2, v3] [.int x1, .int x0, .ref a] h Q = ev_ X d 193 [.ref a, .int x0, .int x1] h (fun r h' => ex_ X (d + 1) 195 51 [v0, v1, v2, v3] (r.toList ++ []) h' Q) := R_vir (show mx_at 195 48 = some (.invokevirtual 279, 3) by decide +kernel) (mx_clk ow195 cc12_279) (Nat.le_of_ble_eq_true rfl) rfl rfl hc rfl (Nat.le_of_ble_eq_true rfl) (Nat.le_of_ble_eq_true rfl) (by rw [ml193]; exact Nat.le_of_ble_eq_true rfl)
set_option maxRecDepth 20000 in
theorem i195_51 : ex_ X d 195 51 [v0, v1, v2, v3] [.int x] h Q = (mx_nl v2 = true ∧ ex_ X d 195 52 [v0, v1, v2, .int x] [] h Q) := mx_t1 (R_st (ok := mx_isI) (n := 3) (w := 1) (show mx_at 195 51 = some (.istore_n 3, 1) by decide +kernel) (fun _ _ => rfl) (Nat.le_of_ble_eq_true rfl)) rfl
set_option maxRecDepth 20000 in
theorem i195_52 : ex_ X d 195 52 [v0, v1, v2, .int x] [] h Q = ex_ X d 195 53 [v0, v1, v2, .int x] [.int x] h Q := ex_nx (show mx_at 195 52 = some (.iload_n 3, 1) by decide +kernel) rfl
set_option maxRecDepth 20000 in
theorem i195_53 : ex_ X d 195 53 [.ref a, v1, v2, v3] [w0] h Q = ex_ X d 195 54 [.ref a, v1, v2, v3] [.ref a, w0] h Q := ex_nx (show mx_at 195 53 = some (.aload_n 0, 1) by decide +kernel) rfl
set_option maxRecDepth 20000 in
theorem i195_54 : ex_ X d 195 54 [.ref a, v1, v2, v3] [w0, w1] h Q = ex_ X d 195 55 [.ref a, v1, v2, v3] [.ref a, w0, w1] h Q := ex_nx (show mx_at 195 54 = some (.aload_n 0, 1) by decide +kernel) rfl
set_option maxRecDepth 20000 in
theorem i195_55 (hc : co_ h a = some 12) : ex_ X (d + 1) 195 55 [v0, v1, v2, v3] [.ref a, w0, w1] h Q = ev_ X d 191 [.ref a] h (fun r h' => ex_ X (d + 1) 195 58 [v0, v1, v2, v3] (r.toList ++ [w0, w1]) h' Q) := R_vir (show mx_at 195 55 = some (.invokevirtual 276, 3) by decide +kernel) (mx_clk ow195 cc12_276) (Nat.le_of_ble_eq_true rfl) rfl rfl hc rfl (Nat.le_of_ble_eq_true rfl) (Nat.le_of_ble_eq_true rfl) (by rw [ml191]; exact Nat.le_of_ble_eq_true rfl)
set_option maxRecDepth 20000 in
theorem i195_58 : ex_ X d 195 58 [v0, v1, .int x, v3] [w0, w1, w2] h Q = ex_ X d 195 59 [v0, v1, .int x, v3] [.int x, w0, w1, w2] h Q := ex_nx (show mx_at 195 58 = some (.iload_n 2, 1) by decide +kernel) rfl
set_option maxRecDepth 20000 in
theorem i195_59 (hc : co_ h a = some 12) : ex_ X (d + 1) 195 59 [v0, v1, v2, v3] [.int x1, .int x0, .ref a, w0] h Q = ev_ X d 194 [.ref a, .int x0, .int x1] h (fun r h' => ex_ X (d + 1) 195 62 [v0, v1, v2, v3] (r.toList ++ [w0]) h' Q) := R_vir (show mx_at 195 59 = some (.invokevirtual 282, 3) by decide +kernel) (mx_clk ow195 cc12_282) (Nat.le_of_ble_eq_true rfl) rfl rfl hc rfl (Nat.le_of_ble_eq_true rfl) (Nat.le_of_ble_eq_true rfl) (by rw [ml194]; exact Nat.le_of_ble_eq_true rfl)
set_option maxRecDepth 20000 in
theorem i195_62 : ex_ X d 195 62 [v0, v1, v2, v3] [.int y, .int x] h Q = ex_ X d 195 63 [v0, v1, v2, v3] [.int (x ^^^ y)] h Q := ex_nx (show mx_at 195 62 = some (.ixor, 1) by decide +kernel) rfl
set_option maxRecDepth 20000 in
theorem i195_63 : ex_ X d 195 63 [v0, v1, v2, v3] [.int x] h Q = Q (some (.int x)) h := ex_ret (show mx_at 195 63 = some (.ireturn, 1) by decide +kernel) (mx_retI rt195)
set_option maxRecDepth 20000 in
theorem i195_64 : ex_ X d 195 64 [.ref a, v1, v2, v3] [] h Q = ex_ X d 195 65 [.ref a, v1, v2, v3] [.ref a] h Q := ex_nx (show mx_at 195 64 = some (.aload_n 0, 1) by decide +kernel) rfl
set_option maxRecDepth 20000 in
theorem i195_65 : ex_ X d 195 65 [v0, v1, v2, v3] [w0] h Q = ex_ X d 195 67 [v0, v1, v2, v3] [.int 50, w0] h Q := R_bipush (show mx_at 195 65 = some (.bipush 50, 2) by decide +kernel) (by decide)
set_option maxRecDepth 20000 in
theorem i195_67 (hc : co_ h a = some 12) : ex_ X (d + 1) 195 67 [v0, v1, v2, v3] [.int x0, .ref a] h Q = ev_ X d 189 [.ref a, .int x0] h (fun r h' => ex_ X (d + 1) 195 70 [v0, v1, v2, v3] (r.toList ++ []) h' Q) := R_vir (show mx_at 195 67 = some (.invokevirtual 267, 3) by decide +kernel) (mx_clk ow195 cc12_267) (Nat.le_of_ble_eq_true rfl) rfl rfl hc rfl (Nat.le_of_ble_eq_true rfl) (Nat.le_of_ble_eq_true rfl) (by rw [ml189]; exact Nat.le_of_ble_eq_true rfl)
set_option maxRecDepth 20000 in
theorem i195_70 : ex_ X d 195 70 [.ref a, v1, v2, v3] [] h Q = ex_ X d 195 71 [.ref a, v1, v2, v3] [.ref a] h Q := ex_nx (show mx_at 195 70 = some (.aload_n 0, 1) by decide +kernel) rfl
set_option maxRecDepth 20000 in
theorem i195_71 : ex_ X d 195 71 [v0, v1, v2, v3] [w0] h Q = ex_ X d 195 72 [v0, v1, v2, v3] [.int 4, w0] h Q := R_iconst (show mx_at 195 71 = some (.iconst 4, 1) by decide +kernel) (by decide)
set_option maxRecDepth 20000 in
theorem i195_72 : ex_ X (d + 1) 195 72 [v0, v1, v2, v3] [.int x0, w0] h Q = ev_ X d 190 [.int x0] h (fun r h' => ex_ X (d + 1) 195 75 [v0, v1, v2, v3] (r.toList ++ [w0]) h' Q) := R_stat (show mx_at 195 72 = some (.invokestatic 270, 3) by decide +kernel) (mx_clk ow195 cc12_270) (Nat.le_of_ble_eq_true rfl) rfl rfl (Nat.le_of_ble_eq_true rfl) ml190 (Nat.le_of_ble_eq_true rfl)
set_option maxRecDepth 20000 in
theorem i195_75 : ex_ X d 195 75 [v0, v1, .int x, v3] [w0, w1] h Q = ex_ X d 195 76 [v0, v1, .int x, v3] [.int x, w0, w1] h Q := ex_nx (show mx_at 195 75 = some (.iload_n 2, 1) by decide +kernel) rfl
set_option maxRecDepth 20000 in
theorem i195_76 (hc : co_ h a = some 12) : ex_ X (d + 1) 195 76 [v0, v1, v2, v3] [.int x1, .int x0, .ref a] h Q = ev_ X d 195 [.ref a, .int x0, .int x1] h (fun r h' => ex_ X (d + 1) 195 79 [v0, v1, v2, v3] (r.toList ++ []) h' Q) := R_vir (show mx_at 195 76 = some (.invokevirtual 285, 3) by decide +kernel) (mx_clk ow195 cc12_285) (Nat.le_of_ble_eq_true rfl) rfl rfl hc rfl (Nat.le_of_ble_eq_true rfl) (Nat.le_of_ble_eq_true rfl) (by rw [ml195]; exact Nat.le_of_ble_eq_true rfl)
set_option maxRecDepth 20000 in
theorem i195_79 : ex_ X d 195 79 [v0, v1, v2, v3] [.int x] h Q = (mx_nl v2 = true ∧ ex_ X d 195 80 [v0, v1, v2, .int x] [] h Q) := mx_t1 (R_st (ok := mx_isI) (n := 3) (w := 1) (show mx_at 195 79 = some (.istore_n 3, 1) by decide +kernel) (fun _ _ => rfl) (Nat.le_of_ble_eq_true rfl)) rfl
set_option maxRecDepth 20000 in
theorem i195_80 : ex_ X d 195 80 [v0, v1, v2, .int x] [] h Q = ex_ X d 195 81 [v0, v1, v2, .int x] [.int x] h Q := ex_nx (show mx_at 195 80 = some (.iload_n 3, 1) by decide +kernel) rfl
set_option maxRecDepth 20000 in
theorem i195_81 : ex_ X d 195 81 [.ref a, v1, v2, v3] [w0] h Q = ex_ X d 195 82 [.ref a, v1, v2, v3] [.ref a, w0] h Q := ex_nx (show mx_at 195 81 = some (.aload_n 0, 1) by decide +kernel) rfl
set_option maxRecDepth 20000 in
theorem i195_82 : ex_ X d 195 82 [.ref a, v1, v2, v3] [w0, w1] h Q = ex_ X d 195 83 [.ref a, v1, v2, v3] [.ref a, w0, w1] h Q := ex_nx (show mx_at 195 82 = some (.aload_n 0, 1) by decide +kernel) rfl
set_option maxRecDepth 20000 in
theorem i195_83 (hc : co_ h a = some 12) : ex_ X (d + 1) 195 83 [v0, v1, v2, v3] [.ref a, w0, w1] h Q = ev_ X d 191 [.ref a] h (fun r h' => ex_ X (d + 1) 195 86 [v0, v1, v2, v3] (r.toList ++ [w0, w1]) h' Q) := R_vir (show mx_at 195 83 = some (.invokevirtual 276, 3) by decide +kernel) (mx_clk ow195 cc12_276) (Nat.le_of_ble_eq_true rfl) rfl rfl hc rfl (Nat.le_of_ble_eq_true rfl) (Nat.le_of_ble_eq_true rfl) (by rw [ml191]; exact Nat.le_of_ble_eq_true rfl)
set_option maxRecDepth 20000 in
theorem i195_86 : ex_ X d 195 86 [v0, v1, v2, v3] [w0, w1, w2] h Q = ex_ X d 195 87 [v0, v1, v2, v3] [.int 2, w0, w1, w2] h Q := R_iconst (show mx_at 195 86 = some (.iconst 2, 1) by decide +kernel) (by decide)
set_option maxRecDepth 20000 in
theorem i195_87 (hc : co_ h a = some 12) : ex_ X (d + 1) 195 87 [v0, v1, v2, v3] [.int x1, .int x0, .ref a, w0] h Q = ev_ X d 192 [.ref a, .int x0, .int x1] h (fun r h' => ex_ X (d + 1) 195 90 [v0, v1, v2, v3] (r.toList ++ [w0]) h' Q) := R_vir (show mx_at 195 87 = some (.invokevirtual 273, 3) by decide +kernel) (mx_clk ow195 cc12_273) (Nat.le_of_ble_eq_true rfl) rfl rfl hc rfl (Nat.le_of_ble_eq_true rfl) (Nat.le_of_ble_eq_true rfl) (by rw [ml192]; exact Nat.le_of_ble_eq_true rfl)
set_option maxRecDepth 20000 in
theorem i195_90 : ex_ X d 195 90 [v0, v1, v2, v3] [.int y, .int x] h Q = ex_ X d 195 91 [v0, v1, v2, v3] [.int (x - y)] h Q := ex_nx (show mx_at 195 90 = some (.isub, 1) by decide +kernel) rfl
set_option maxRecDepth 20000 in
theorem i195_91 : ex_ X d 195 91 [v0, v1, v2, v3] [.int x] h Q = Q (some (.int x)) h := ex_ret (show mx_at 195 91 = some (.ireturn, 1) by decide +kernel) (mx_retI rt195)
set_option maxRecDepth 20000 in
theorem i195_92 : ex_ X d 195 92 [.ref a, v1, v2, v3] [] h Q = ex_ X d 195 93 [.ref a, v1, v2, v3] [.ref a] h Q := ex_nx (show mx_at 195 92 = some (.aload_n 0, 1) by decide +kernel) rfl
set_option maxRecDepth 20000 in
theorem i195_93 : ex_ X d 195 93 [v0, v1, v2, v3] [w0] h Q = ex_ X d 195 95 [v0, v1, v2, v3] [.int 71, w0] h Q := R_bipush (show mx_at 195 93 = some (.bipush 71, 2) by decide +kernel) (by decide)
set_option maxRecDepth 20000 in
theorem i195_95 (hc : co_ h a = some 12) : ex_ X (d + 1) 195 95 [v0, v1, v2, v3] [.int x0, .ref a] h Q = ev_ X d 189 [.ref a, .int x0] h (fun r h' => ex_ X (d + 1) 195 98 [v0, v1, v2, v3] (r.toList ++ []) h' Q) := R_vir (show mx_at 195 95 = some (.invokevirtual 267, 3) by decide +kernel) (mx_clk ow195 cc12_267) (Nat.le_of_ble_eq_true rfl) rfl rfl hc rfl (Nat.le_of_ble_eq_true rfl) (Nat.le_of_ble_eq_true rfl) (by rw [ml189]; exact Nat.le_of_ble_eq_true rfl)
set_option maxRecDepth 20000 in
theorem i195_98 : ex_ X d 195 98 [.ref a, v1, v2, v3] [] h Q = ex_ X d 195 99 [.ref a, v1, v2, v3] [.ref a] h Q := ex_nx (show mx_at 195 98 = some (.aload_n 0, 1) by decide +kernel) rfl
set_option maxRecDepth 20000 in
theorem i195_99 : ex_ X d 195 99 [.ref a, v1, v2, v3] [w0] h Q = ex_ X d 195 100 [.ref a, v1, v2, v3] [.ref a, w0] h Q := ex_nx (show mx_at 195 99 = some (.aload_n 0, 1) by decide +kernel) rfl
set_option maxRecDepth 20000 in
theorem i195_100 (hc : co_ h a = some 12) : ex_ X (d + 1) 195 100 [v0, v1, v2, v3] [.ref a, w0] h Q = ev_ X d 191 [.ref a] h (fun r h' => ex_ X (d + 1) 195 103 [v0, v1, v2, v3] (r.toList ++ [w0]) h' Q) := R_vir (show mx_at 195 100 = some (.invokevirtual 276, 3) by decide +kernel) (mx_clk ow195 cc12_276) (Nat.le_of_ble_eq_true rfl) rfl rfl hc rfl (Nat.le_of_ble_eq_true rfl) (Nat.le_of_ble_eq_true rfl) (by rw [ml191]; exact Nat.le_of_ble_eq_true rfl)
set_option maxRecDepth 20000 in
theorem i195_103 : ex_ X d 195 103 [v0, v1, .int x, v3] [w0, w1] h Q = ex_ X d 195 104 [v0, v1, .int x, v3] [.int x, w0, w1] h Q := ex_nx (show mx_at 195 103 = some (.iload_n 2, 1) by decide +kernel) rfl
set_option maxRecDepth 20000 in
theorem i195_104 (hc : co_ h a = some 12) : ex_ X (d + 1) 195 104 [v0, v1, v2, v3] [.int x1, .int x0, .ref a] h Q = ev_ X d 193 [.ref a, .int x0, .int x1] h (fun r h' => ex_ X (d + 1) 195 107 [v0, v1, v2, v3] (r.toList ++ []) h' Q) := R_vir (show mx_at 195 104 = some (.invokevirtual 279, 3) by decide +kernel) (mx_clk ow195 cc12_279) (Nat.le_of_ble_eq_true rfl) rfl rfl hc rfl (Nat.le_of_ble_eq_true rfl) (Nat.le_of_ble_eq_true rfl) (by rw [ml193]; exact Nat.le_of_ble_eq_true rfl)
set_option maxRecDepth 20000 in
theorem i195_107 : ex_ X d 195 107 [v0, v1, v2, v3] [.int x] h Q = (mx_nl v2 = true ∧ ex_ X d 195 108 [v0, v1, v2, .int x] [] h Q) := mx_t1 (R_st (ok := mx_isI) (n := 3) (w := 1) (show mx_at 195 107 = some (.istore_n 3, 1) by decide +kernel) (fun _ _ => rfl) (Nat.le_of_ble_eq_true rfl)) rfl
set_option maxRecDepth 20000 in
theorem i195_108 : ex_ X d 195 108 [v0, v1, v2, .int x] [] h Q = ex_ X d 195 109 [v0, v1, v2, .int x] [.int x] h Q := ex_nx (show mx_at 195 108 = some (.iload_n 3, 1) by decide +kernel) rfl
set_option maxRecDepth 20000 in
theorem i195_109 : ex_ X d 195 109 [.ref a, v1, v2, v3] [w0] h Q = ex_ X d 195 110 [.ref a, v1, v2, v3] [.ref a, w0] h Q := ex_nx (show mx_at 195 109 = some (.aload_n 0, 1) by decide +kernel) rfl
set_option maxRecDepth 20000 in
theorem i195_110 : ex_ X d 195 110 [v0, v1, v2, v3] [w0, w1] h Q = ex_ X d 195 112 [v0, v1, v2, v3] [.int 6, w0, w1] h Q := R_bipush (show mx_at 195 110 = some (.bipush 6, 2) by decide +kernel) (by decide)
set_option maxRecDepth 20000 in
theorem i195_112 : ex_ X (d + 1) 195 112 [v0, v1, v2, v3] [.int x0, w0, w1] h Q = ev_ X d 190 [.int x0] h (fun r h' => ex_ X (d + 1) 195 115 [v0, v1, v2, v3] (r.toList ++ [w0, w1]) h' Q) := R_stat (show mx_at 195 112 = some (.invokestatic 270, 3) by decide +kernel) (mx_clk ow195 cc12_270) (Nat.le_of_ble_eq_true rfl) rfl rfl (Nat.le_of_ble_eq_true rfl) ml190 (Nat.le_of_ble_eq_true rfl)
set_option maxRecDepth 20000 in
theorem i195_115 : ex_ X d 195 115 [v0, v1, .int x, v3] [w0, w1, w2] h Q = ex_ X d 195 116 [v0, v1, .int x, v3] [.int x, w0, w1, w2] h Q := ex_nx (show mx_at 195 115 = some (.iload_n 2, 1) by decide +kernel) rfl
set_option maxRecDepth 20000 in
theorem i195_116 (hc : co_ h a = some 12) : ex_ X (d + 1) 195 116 [v0, v1, v2, v3] [.int x1, .int x0, .ref a, w0] h Q = ev_ X d 195 [.ref a, .int x0, .int x1] h (fun r h' => ex_ X (d + 1) 195 119 [v0, v1, v2, v3] (r.toList ++ [w0]) h' Q) := R_vir (show mx_at 195 116 = some (.invokevirtual 285, 3) by decide +kernel) (mx_clk ow195 cc12_285) (Nat.le_of_ble_eq_true rfl) rfl rfl hc rfl (Nat.le_of_ble_eq_true rfl) (Nat.le_of_ble_eq_true rfl) (by rw [ml195]; exact Nat.le_of_ble_eq_true rfl)
set_option maxRecDepth 20000 in
theorem i195_119 : ex_ X d 195 119 [v0, v1, v2, v3] [.int y, .int x] h Q = ex_ X d 195 120 [v0, v1, v2, v3] [.int (x - y)] h Q := ex_nx (show mx_at 195 119 = some (.isub, 1) by decide +kernel) rfl
set_option maxRecDepth 20000 in
theorem i195_120 : ex_ X d 195 120 [v0, v1, v2, v3] [.int x] h Q = Q (some (.int x)) h := ex_ret (show mx_at 195 120 = some (.ireturn, 1) by decide +kernel) (mx_retI rt195)
set_option maxRecDepth 20000 in
theorem i195_121 : ex_ X d 195 121 [.ref a, v1, v2, v3] [] h Q = ex_ X d 195 122 [.ref a, v1, v2, v3] [.ref a] h Q := ex_nx (show mx_at 195 121 = some (.aload_n 0, 1) by decide +kernel) rfl
set_option maxRecDepth 20000 in
theorem i195_122 : ex_ X d 195 122 [v0, .int x, v2, v3] [w0] h Q = ex_ X d 195 123 [v0, .int x, v2, v3] [.int x, w0] h Q := ex_nx (show mx_at 195 122 = some (.iload_n 1, 1) by decide +kernel) rfl
set_option maxRecDepth 20000 in
theorem i195_123 : ex_ X (d + 1) 195 123 [v0, v1, v2, v3] [.int x0, w0] h Q = ev_ X d 190 [.int x0] h (fun r h' => ex_ X (d + 1) 195 126 [v0, v1, v2, v3] (r.toList ++ [w0]) h' Q) := R_stat (show mx_at 195 123 = some (.invokestatic 270, 3) by decide +kernel) (mx_clk ow195 cc12_270) (Nat.le_of_ble_eq_true rfl) rfl rfl (Nat.le_of_ble_eq_true rfl) ml190 (Nat.le_of_ble_eq_true rfl)
set_option maxRecDepth 20000 in
theorem i195_126 : ex_ X d 195 126 [v0, v1, .int x, v3] [w0, w1] h Q = ex_ X d 195 127 [v0, v1, .int x, v3] [.int x, w0, w1] h Q := ex_nx (show mx_at 195 126 = some (.iload_n 2, 1) by decide +kernel) rfl
set_option maxRecDepth 20000 in
theorem i195_127 (hc : co_ h a = some 12) : ex_ X (d + 1) 195 127 [v0, v1, v2, v3] [.int x1, .int x0, .ref a] h Q = ev_ X d 195 [.ref a, .int x0, .int x1] h (fun r h' => ex_ X (d + 1) 195 130 [v0, v1, v2, v3] (r.toList ++ []) h' Q) := R_vir (show mx_at 195 127 = some (.invokevirtual 285, 3) by decide +kernel) (mx_clk ow195 cc12_285) (Nat.le_of_ble_eq_true rfl) rfl rfl hc rfl (Nat.le_of_ble_eq_true rfl) (Nat.le_of_ble_eq_true rfl) (by rw [ml195]; exact Nat.le_of_ble_eq_true rfl)
set_option maxRecDepth 20000 in
theorem i195_130 : ex_ X d 195 130 [v0, v1, v2, v3] [.int x] h Q = Q (some (.int x)) h := ex_ret (show mx_at 195 130 = some (.ireturn, 1) by decide +kernel) (mx_retI rt195)
theorem i195_e : ev_ X d 195 [.ref a, .int x0, .int x1] h Q = ex_ X d 195 0 [.ref a, .int x0, .int x1, .double 0] [] h Q := by rw [ev_, ml195]; rfl
-- 196 X12_voice
set_option maxRecDepth 20000 in
theorem i196_0 : ex_ X d 196 0 [.ref a, v1, v2, v3, v4] [] h Q = ex_ X d 196 1 [.ref a, v1, v2, v3, v4] [.ref a] h Q := ex_nx (show mx_at 196 0 = some (.aload_n 0, 1) by decide +kernel) rfl
set_option maxRecDepth 20000 in
theorem i196_1 : ex_ X d 196 1 [v0, .int x, v2, v3, v4] [w0] h Q = ex_ X d 196 2 [v0, .int x, v2, v3, v4] [.int x, w0] h Q := ex_nx (show mx_at 196 1 = some (.iload_n 1, 1) by decide +kernel) rfl
set_option maxRecDepth 20000 in
theorem i196_2 (hc : co_ h a = some 12) : ex_ X (d + 1) 196 2 [v0, v1, v2, v3, v4] [.int x0, .ref a] h Q = ev_ X d 127 [.ref a, .int x0] h (fun r h' => ex_ X (d + 1) 196 5 [v0, v1, v2, v3, v4] (r.toList ++ []) h' Q) := R_vir (show mx_at 196 2 = some (.invokevirtual 173, 3) by decide +kernel) (mx_clk ow196 cc12_173) (Nat.le_of_ble_eq_true rfl) rfl rfl hc rfl (Nat.le_of_ble_eq_true rfl) (Nat.le_of_ble_eq_true rfl) (by rw [ml127]; exact Nat.le_of_ble_eq_true rfl)
set_option maxRecDepth 20000 in
theorem i196_5 : ex_ X d 196 5 [v0, v1, v2, v3, v4] [.int x] h Q = if x = 0 then ex_ X d 196 20 [v0, v1, v2, v3, v4] [] h Q else ex_ X d 196 8 [v0, v1, v2, v3, v4] [] h Q := (R_br (show mx_at 196 5 = some (.ifCond .eq 15, 3) by decide +kernel) rfl rfl).trans mx_ite
set_option maxRecDepth 20000 in
theorem i196_8 : ex_ X d 196 8 [v0, v1, .int x, v3, v4] [] h Q = ex_ X d 196 9 [v0, v1, .int x, v3, v4] [.int x] h Q := ex_nx (show mx_at 196 8 = some (.iload_n 2, 1) by decide +kernel) rfl
set_option maxRecDepth 20000 in
theorem i196_9 : ex_ X d 196 9 [v0, v1, v2, v3, v4] [.int x] h Q = ex_ X d 196 10 [v0, v1, v2, v3, v4] [.long x.toInt64] h Q := ex_nx (show mx_at 196 9 = some (.i2l, 1) by decide +kernel) rfl
set_option maxRecDepth 20000 in
theorem i196_10 : ex_ X d 196 10 [v0, v1, v2, v3, v4] [w0] h Q = ex_ X d 196 11 [v0, v1, v2, v3, v4] [.long 0, w0] h Q := ex_nx (show mx_at 196 10 = some (.lconst 0, 1) by decide +kernel) rfl
set_option maxRecDepth 20000 in
theorem i196_11 : ex_ X d 196 11 [v0, v1, v2, v3, v4] [w0, w1] h Q = ex_ X d 196 14 [v0, v1, v2, v3, v4] [.long 3, w0, w1] h Q := R_ldc2 (show mx_at 196 11 = some (.ldc2_w 256, 3) by decide +kernel) ow196 kl120256
set_option maxRecDepth 20000 in
theorem i196_14 : ex_ X (d + 1) 196 14 [v0, v1, v2, v3, v4] [.long j2, .long j1, .long j0] h Q = ev_ X d 124 [.long j0, .long j1, .long j2] h (fun r h' => ex_ X (d + 1) 196 17 [v0, v1, v2, v3, v4] (r.toList ++ []) h' Q) := R_stat (show mx_at 196 14 = some (.invokestatic 54, 3) by decide +kernel) (mx_clk ow196 cc12_54) (Nat.le_of_ble_eq_true rfl) rfl rfl (Nat.le_of_ble_eq_true rfl) ml124 (Nat.le_of_ble_eq_true rfl)
set_option maxRecDepth 20000 in
theorem i196_17 : ex_ X d 196 17 [v0, v1, v2, v3, v4] [.int x] h Q = if ¬ x = 0 then ex_ X d 196 26 [v0, v1, v2, v3, v4] [] h Q else ex_ X d 196 20 [v0, v1, v2, v3, v4] [] h Q := (R_br (show mx_at 196 17 = some (.ifCond .ne 9, 3) by decide +kernel) rfl rfl).trans mx_ite
set_option maxRecDepth 20000 in
theorem i196_20 : ex_ X d 196 20 [.ref a, v1, v2, v3, v4] [] h Q = ex_ X d 196 21 [.ref a, v1, v2, v3, v4] [.ref a] h Q := ex_nx (show mx_at 196 20 = some (.aload_n 0, 1) by decide +kernel) rfl
set_option maxRecDepth 20000 in
theorem i196_21 : ex_ X d 196 21 [v0, v1, v2, v3, v4] [w0] h Q = ex_ X d 196 22 [v0, v1, v2, v3, v4] [.int 1, w0] h Q := R_iconst (show mx_at 196 21 = some (.iconst 1, 1) by decide +kernel) (by decide)
set_option maxRecDepth 20000 in
theorem i196_22 (hc : co_ h a = some 12) : ex_ X (d + 1) 196 22 [v0, v1, v2, v3, v4] [.int x0, .ref a] h Q = ev_ X d 123 [.ref a, .int x0] h (fun r h' => ex_ X (d + 1) 196 25 [v0, v1, v2, v3, v4] (r.toList ++ []) h' Q) := R_vir (show mx_at 196 22 = some (.invokevirtual 131, 3) by decide +kernel) (mx_clk ow196 cc12_131) (Nat.le_of_ble_eq_true rfl) rfl rfl hc rfl (Nat.le_of_ble_eq_true rfl) (Nat.le_of_ble_eq_true rfl) (by rw [ml123]; exact Nat.le_of_ble_eq_true rfl)
set_option maxRecDepth 20000 in
theorem i196_25 : ex_ X d 196 25 [v0, v1, v2, v3, v4] [.int x] h Q = Q (some (.int x)) h := ex_ret (show mx_at 196 25 = some (.ireturn, 1) by decide +kernel) (mx_retI rt196)
set_option maxRecDepth 20000 in
theorem i196_26 : ex_ X d 196 26 [.ref a, v1, v2, v3, v4] [] h Q = ex_ X d 196 27 [.ref a, v1, v2, v3, v4] [.ref a] h Q := ex_nx (show mx_at 196 26 = some (.aload_n 0, 1) by decide +kernel) rfl
set_option maxRecDepth 20000 in
theorem i196_27 : ex_ X d 196 27 [v0, v1, v2, v3, v4] [w0] h Q = ex_ X d 196 28 [v0, v1, v2, v3, v4] [.int 0, w0] h Q := R_iconst (show mx_at 196 27 = some (.iconst 0, 1) by decide +kernel) (by decide)
set_option maxRecDepth 20000 in
theorem i196_28 : ex_ X d 196 28 [v0, v1, v2, v3, v4] [w, .ref a] h Q = (pk_ 196 h a 18 w [(12, 0)] = true ∧ ex_ X d 196 31 [v0, v1, v2, v3, v4] [] (pf_ h a 18 w) Q) := R_putf (show mx_at 196 28 = some (.putfield 261, 3) by decide +kernel) (mx_fdo ow196 fd120261)
set_option maxRecDepth 20000 in
theorem i196_31 : ex_ X d 196 31 [.ref a, v1, v2, v3, v4] [] h Q = ex_ X d 196 32 [.ref a, v1, v2, v3, v4] [.ref a] h Q := ex_nx (show mx_at 196 31 = some (.aload_n 0, 1) by decide +kernel) rfl
set_option maxRecDepth 20000 in
theorem i196_32 : ex_ X d 196 32 [v0, .int x, v2, v3, v4] [w0] h Q = ex_ X d 196 33 [v0, .int x, v2, v3, v4] [.int x, w0] h Q := ex_nx (show mx_at 196 32 = some (.iload_n 1, 1) by decide +kernel) rfl
set_option maxRecDepth 20000 in
theorem i196_33 : ex_ X d 196 33 [v0, v1, v2, v3, v4] [w, .ref a] h Q = (pk_ 196 h a 19 w [(12, 0)] = true ∧ ex_ X d 196 36 [v0, v1, v2, v3, v4] [] (pf_ h a 19 w) Q) := R_putf (show mx_at 196 33 = some (.putfield 264, 3) by decide +kernel) (mx_fdo ow196 fd120264)
set_option maxRecDepth 20000 in
theorem i196_36 : ex_ X d 196 36 [.ref a, v1, v2, v3, v4] [] h Q = ex_ X d 196 37 [.ref a, v1, v2, v3, v4] [.ref a] h Q := ex_nx (show mx_at 196 36 = some (.aload_n 0, 1) by decide +kernel) rfl
set_option maxRecDepth 20000 in
theorem i196_37 (hc : co_ h a = some 12) : ex_ X (d + 1) 196 37 [v0, v1, v2, v3, v4] [.ref a] h Q = ev_ X d 191 [.ref a] h (fun r h' => ex_ X (d + 1) 196 40 [v0, v1, v2, v3, v4] (r.toList ++ []) h' Q) := R_vir (show mx_at 196 37 = some (.invokevirtual 276, 3) by decide +kernel) (mx_clk ow196 cc12_276) (Nat.le_of_ble_eq_true rfl) rfl rfl hc rfl (Nat.le_of_ble_eq_true rfl) (Nat.le_of_ble_eq_true rfl) (by rw [ml191]; exact Nat.le_of_ble_eq_true rfl)
set_option maxRecDepth 20000 in
theorem i196_40 : ex_ X d 196 40 [v0, v1, v2, v3, v4] [.int x] h Q = (mx_nl v3 = true ∧ ex_ X d 196 42 [v0, v1, v2, v3, .int x] [] h Q) := mx_t1 (R_st (ok := mx_isI) (n := 4) (w := 2) (show mx_at 196 40 = some (.istore 4, 2) by decide +kernel) (fun _ _ => rfl) (Nat.le_of_ble_eq_true rfl)) rfl
set_option maxRecDepth 20000 in
theorem i196_42 : ex_ X d 196 42 [v0, v1, .int x, v3, v4] [] h Q = ex_ X d 196 43 [v0, v1, .int x, v3, v4] [.int x] h Q := ex_nx (show mx_at 196 42 = some (.iload_n 2, 1) by decide +kernel) rfl
set_option maxRecDepth 20000 in
theorem i196_43 : ex_ X d 196 43 [v0, v1, v2, v3, v4] [.int x] h Q = if ¬ x = 0 then ex_ X d 196 56 [v0, v1, v2, v3, v4] [] h Q else ex_ X d 196 46 [v0, v1, v2, v3, v4] [] h Q := (R_br (show mx_at 196 43 = some (.ifCond .ne 13, 3) by decide +kernel) rfl rfl).trans mx_ite
set_option maxRecDepth 20000 in
theorem i196_46 : ex_ X d 196 46 [.ref a, v1, v2, v3, v4] [] h Q = ex_ X d 196 47 [.ref a, v1, v2, v3, v4] [.ref a] h Q := ex_nx (show mx_at 196 46 = some (.aload_n 0, 1) by decide +kernel) rfl
set_option maxRecDepth 20000 in
theorem i196_47 : ex_ X d 196 47 [v0, v1, v2, v3, .int x] [w0] h Q = ex_ X d 196 49 [v0, v1, v2, v3, .int x] [.int x, w0] h Q := ex_nx (show mx_at 196 47 = some (.iload 4, 2) by decide +kernel) rfl
set_option maxRecDepth 20000 in
theorem i196_49 : ex_ X d 196 49 [v0, v1, v2, .int x, v4] [w0, w1] h Q = ex_ X d 196 50 [v0, v1, v2, .int x, v4] [.int x, w0, w1] h Q := ex_nx (show mx_at 196 49 = some (.iload_n 3, 1) by decide +kernel) rfl
set_option maxRecDepth 20000 in
theorem i196_50 (hc : co_ h a = some 12) : ex_ X (d + 1) 196 50 [v0, v1, v2, v3, v4] [.int x1, .int x0, .ref a] h Q = ev_ X d 192 [.ref a, .int x0, .int x1] h (fun r h' => ex_ X (d + 1) 196 53 [v0, v1, v2, v3, v4] (r.toList ++ []) h' Q) := R_vir (show mx_at 196 50 = some (.invokevirtual 273, 3) by decide +kernel) (mx_clk ow196 cc12_273) (Nat.le_of_ble_eq_true rfl) rfl rfl hc rfl (Nat.le_of_ble_eq_true rfl) (Nat.le_of_ble_eq_true rfl) (by rw [ml192]; exact Nat.le_of_ble_eq_true rfl)
set_option maxRecDepth 20000 in
theorem i196_53 : ex_ X d 196 53 [v0, v1, v2, v3, v4] [w0] h Q = ex_ X d 196 93 [v0, v1, v2, v3, v4] [w0] h Q := R_to (show mx_at 196 53 = some (.goto 40, 3) by decide +kernel) rfl rfl
set_option maxRecDepth 20000 in
theorem i196_56 : ex_ X d 196 56 [v0, v1, .int x, v3, v4] [] h Q = ex_ X d 196 57 [v0, v1, .int x, v3, v4] [.int x] h Q := ex_nx (show mx_at 196 56 = some (.iload_n 2, 1) by decide +kernel) rfl
set_option maxRecDepth 20000 in
theorem i196_57 : ex_ X d 196 57 [v0, v1, v2, v3, v4] [w0] h Q = ex_ X d 196 58 [v0, v1, v2, v3, v4] [.int 1, w0] h Q := R_iconst (show mx_at 196 57 = some (.iconst 1, 1) by decide +kernel) (by decide)
set_option maxRecDepth 20000 in
theorem i196_58 : ex_ X d 196 58 [v0, v1, v2, v3, v4] [.int y, .int x] h Q = if ¬ x = y then ex_ X d 196 71 [v0, v1, v2, v3, v4] [] h Q else ex_ X d 196 61 [v0, v1, v2, v3, v4] [] h Q := (R_br (show mx_at 196 58 = some (.if_icmp .ne 13, 3) by decide +kernel) rfl rfl).trans mx_ite
set_option maxRecDepth 20000 in
theorem i196_61 : ex_ X d 196 61 [.ref a, v1, v2, v3, v4] [] h Q = ex_ X d 196 62 [.ref a, v1, v2, v3, v4] [.ref a] h Q := ex_nx (show mx_at 196 61 = some (.aload_n 0, 1) by decide +kernel) rfl
set_option maxRecDepth 20000 in
theorem i196_62 : ex_ X d 196 62 [v0, v1, v2, v3, .int x] [w0] h Q = ex_ X d 196 64 [v0, v1, v2, v3, .int x] [.int x, w0] h Q := ex_nx (show mx_at 196 62 = some (.iload 4, 2) by decide +kernel) rfl
set_option maxRecDepth 20000 in
theorem i196_64 : ex_ X d 196 64 [v0, v1, v2, .int x, v4] [w0, w1] h Q = ex_ X d 196 65 [v0, v1, v2, .int x, v4] [.int x, w0, w1] h Q := ex_nx (show mx_at 196 64 = some (.iload_n 3, 1) by decide +kernel) rfl
set_option maxRecDepth 20000 in
theorem i196_65 (hc : co_ h a = some 12) : ex_ X (d + 1) 196 65 [v0, v1, v2, v3, v4] [.int x1, .int x0, .ref a] h Q = ev_ X d 193 [.ref a, .int x0, .int x1] h (fun r h' => ex_ X (d + 1) 196 68 [v0, v1, v2, v3, v4] (r.toList ++ []) h' Q) := R_vir (show mx_at 196 65 = some (.invokevirtual 279, 3) by decide +kernel) (mx_clk ow196 cc12_279) (Nat.le_of_ble_eq_true rfl) rfl rfl hc rfl (Nat.le_of_ble_eq_true rfl) (Nat.le_of_ble_eq_true rfl) (by rw [ml193]; exact Nat.le_of_ble_eq_true rfl)
set_option maxRecDepth 20000 in
theorem i196_68 : ex_ X d 196 68 [v0, v1, v2, v3, v4] [w0] h Q = ex_ X d 196 93 [v0, v1, v2, v3, v4] [w0] h Q := R_to (show mx_at 196 68 = some (.goto 25, 3) by decide +kernel) rfl rfl
set_option maxRecDepth 20000 in
theorem i196_71 : ex_ X d 196 71 [v0, v1, .int x, v3, v4] [] h Q = ex_ X d 196 72 [v0, v1, .int x, v3, v4] [.int x] h Q := ex_nx (show mx_at 196 71 = some (.iload_n 2, 1) by decide +kernel) rfl
set_option maxRecDepth 20000 in
theorem i196_72 : ex_ X d 196 72 [v0, v1, v2, v3, v4] [w0] h Q = ex_ X d 196 73 [v0, v1, v2, v3, v4] [.int 2, w0] h Q := R_iconst (show mx_at 196 72 = some (.iconst 2, 1) by decide +kernel) (by decide)
set_option maxRecDepth 20000 in
theorem i196_73 : ex_ X d 196 73 [v0, v1, v2, v3, v4] [.int y, .int x] h Q = if ¬ x = y then ex_ X d 196 86 [v0, v1, v2, v3, v4] [] h Q else ex_ X d 196 76 [v0, v1, v2, v3, v4] [] h Q := (R_br (show mx_at 196 73 = some (.if_icmp .ne 13, 3) by decide +kernel) rfl rfl).trans mx_ite
set_option maxRecDepth 20000 in
theorem i196_76 : ex_ X d 196 76 [.ref a, v1, v2, v3, v4] [] h Q = ex_ X d 196 77 [.ref a, v1, v2, v3, v4] [.ref a] h Q := ex_nx (show mx_at 196 76 = some (.aload_n 0, 1) by decide +kernel) rfl
set_option maxRecDepth 20000 in
theorem i196_77 : ex_ X d 196 77 [v0, v1, v2, v3, .int x] [w0] h Q = ex_ X d 196 79 [v0, v1, v2, v3, .int x] [.int x, w0] h Q := ex_nx (show mx_at 196 77 = some (.iload 4, 2) by decide +kernel) rfl
set_option maxRecDepth 20000 in
theorem i196_79 : ex_ X d 196 79 [v0, v1, v2, .int x, v4] [w0, w1] h Q = ex_ X d 196 80 [v0, v1, v2, .int x, v4] [.int x, w0, w1] h Q := ex_nx (show mx_at 196 79 = some (.iload_n 3, 1) by decide +kernel) rfl
set_option maxRecDepth 20000 in
theorem i196_80 (hc : co_ h a = some 12) : ex_ X (d + 1) 196 80 [v0, v1, v2, v3, v4] [.int x1, .int x0, .ref a] h Q = ev_ X d 194 [.ref a, .int x0, .int x1] h (fun r h' => ex_ X (d + 1) 196 83 [v0, v1, v2, v3, v4] (r.toList ++ []) h' Q) := R_vir (show mx_at 196 80 = some (.invokevirtual 282, 3) by decide +kernel) (mx_clk ow196 cc12_282) (Nat.le_of_ble_eq_true rfl) rfl rfl hc rfl (Nat.le_of_ble_eq_true rfl) (Nat.le_of_ble_eq_true rfl) (by rw [ml194]; exact Nat.le_of_ble_eq_true rfl)
set_option maxRecDepth 20000 in
theorem i196_83 : ex_ X d 196 83 [v0, v1, v2, v3, v4] [w0] h Q = ex_ X d 196 93 [v0, v1, v2, v3, v4] [w0] h Q := R_to (show mx_at 196 83 = some (.goto 10, 3) by decide +kernel) rfl rfl
set_option maxRecDepth 20000 in
theorem i196_86 : ex_ X d 196 86 [.ref a, v1, v2, v3, v4] [] h Q = ex_ X d 196 87 [.ref a, v1, v2, v3, v4] [.ref a] h Q := ex_nx (show mx_at 196 86 = some (.aload_n 0, 1) by decide +kernel) rfl
set_option maxRecDepth 20000 in
theorem i196_87 : ex_ X d 196 87 [v0, v1, v2, v3, .int x] [w0] h Q = ex_ X d 196 89 [v0, v1, v2, v3, .int x] [.int x, w0] h Q := ex_nx (show mx_at 196 87 = some (.iload 4, 2) by decide +kernel) rfl
set_option maxRecDepth 20000 in
theorem i196_89 : ex_ X d 196 89 [v0, v1, v2, .int x, v4] [w0, w1] h Q = ex_ X d 196 90 [v0, v1, v2, .int x, v4] [.int x, w0, w1] h Q := ex_nx (show mx_at 196 89 = some (.iload_n 3, 1) by decide +kernel) rfl
set_option maxRecDepth 20000 in
theorem i196_90 (hc : co_ h a = some 12) : ex_ X (d + 1) 196 90 [v0, v1, v2, v3, v4] [.int x1, .int x0, .ref a] h Q = ev_ X d 195 [.ref a, .int x0, .int x1] h (fun r h' => ex_ X (d + 1) 196 93 [v0, v1, v2, v3, v4] (r.toList ++ []) h' Q) := R_vir (show mx_at 196 90 = some (.invokevirtual 285, 3) by decide +kernel) (mx_clk ow196 cc12_285) (Nat.le_of_ble_eq_true rfl) rfl rfl hc rfl (Nat.le_of_ble_eq_true rfl) (Nat.le_of_ble_eq_true rfl) (by rw [ml195]; exact Nat.le_of_ble_eq_true rfl)
set_option maxRecDepth 20000 in
theorem i196_93 : ex_ X d 196 93 [v0, v1, v2, v3, v4] [.int x] h Q = Q (some (.int x)) h := ex_ret (show mx_at 196 93 = some (.ireturn, 1) by decide +kernel) (mx_retI rt196)
theorem i196_e : ev_ X d 196 [.ref a, .int x0, .int x1, .int x2] h Q = ex_ X d 196 0 [.ref a, .int x0, .int x1, .int x2, .double 0] [] h Q := by rw [ev_, ml196]; rfl
-- 197 X12_trace
set_option maxRecDepth 20000 in
theorem i197_0 : ex_ X d 197 0 [v0, .int x] [] h Q = ex_ X d 197 1 [v0, .int x] [.int x] h Q := ex_nx (show mx_at 197 0 = some (.iload_n 1, 1) by decide +kernel) rfl
set_option maxRecDepth 20000 in
theorem i197_1 : ex_ X d 197 1 [v0, v1] [.int x] h Q = ex_ X d 197 2 [v0, v1] [.long x.toInt64] h Q := ex_nx (show mx_at 197 1 = some (.i2l, 1) by decide +kernel) rfl
set_option maxRecDepth 20000 in
theorem i197_2 : ex_ X d 197 2 [v0, v1] [w0] h Q = ex_ X d 197 3 [v0, v1] [.long 0, w0] h Q := ex_nx (show mx_at 197 2 = some (.lconst 0, 1) by decide +kernel) rfl
set_option maxRecDepth 20000 in
theorem i197_3 : ex_ X d 197 3 [.ref a, v1] [w0, w1] h Q = ex_ X d 197 4 [.ref a, v1] [.ref a, w0, w1] h Q := ex_nx (show mx_at 197 3 = some (.aload_n 0, 1) by decide +kernel) rfl
set_option maxRecDepth 20000 in
theorem i197_4 : ex_ X d 197 4 [v0, v1] [.ref a, w0, w1] h Q = (gk_ h a 18 [(12, 0)] = true ∧ ex_ X d 197 7 [v0, v1] [gv_ h a 18, w0, w1] h Q) := R_getf (show mx_at 197 4 = some (.getfield 261, 3) by decide +kernel) (mx_fdo ow197 fd120261)
set_option maxRecDepth 20000 in
theorem i197_7 : ex_ X d 197 7 [v0, v1] [w0, w1, w2] h Q = ex_ X d 197 8 [v0, v1] [.int 1, w0, w1, w2] h Q := R_iconst (show mx_at 197 7 = some (.iconst 1, 1) by decide +kernel) (by decide)
set_option maxRecDepth 20000 in
theorem i197_8 : ex_ X d 197 8 [v0, v1] [.int y, .int x, w0, w1] h Q = ex_ X d 197 9 [v0, v1] [.int (x - y), w0, w1] h Q := ex_nx (show mx_at 197 8 = some (.isub, 1) by decide +kernel) rfl
set_option maxRecDepth 20000 in
theorem i197_9 : ex_ X d 197 9 [v0, v1] [.int x, w0, w1] h Q = ex_ X d 197 10 [v0, v1] [.long x.toInt64, w0, w1] h Q := ex_nx (show mx_at 197 9 = some (.i2l, 1) by decide +kernel) rfl
set_option maxRecDepth 20000 in
theorem i197_10 : ex_ X (d + 1) 197 10 [v0, v1] [.long j2, .long j1, .long j0] h Q = ev_ X d 124 [.long j0, .long j1, .long j2] h (fun r h' => ex_ X (d + 1) 197 13 [v0, v1] (r.toList ++ []) h' Q) := R_stat (show mx_at 197 10 = some (.invokestatic 54, 3) by decide +kernel) (mx_clk ow197 cc12_54) (Nat.le_of_ble_eq_true rfl) rfl rfl (Nat.le_of_ble_eq_true rfl) ml124 (Nat.le_of_ble_eq_true rfl)
set_option maxRecDepth 20000 in
theorem i197_13 : ex_ X d 197 13 [v0, v1] [.int x] h Q = if x = 0 then ex_ X d 197 25 [v0, v1] [] h Q else ex_ X d 197 16 [v0, v1] [] h Q := (R_br (show mx_at 197 13 = some (.ifCond .eq 12, 3) by decide +kernel) rfl rfl).trans mx_ite
set_option maxRecDepth 20000 in
theorem i197_16 : ex_ X d 197 16 [.ref a, v1] [] h Q = ex_ X d 197 17 [.ref a, v1] [.ref a] h Q := ex_nx (show mx_at 197 16 = some (.aload_n 0, 1) by decide +kernel) rfl
set_option maxRecDepth 20000 in
theorem i197_17 : ex_ X d 197 17 [v0, v1] [.ref a] h Q = (gk_ h a 17 [(12, 0)] = true ∧ ex_ X d 197 20 [v0, v1] [gv_ h a 17] h Q) := R_getf (show mx_at 197 17 = some (.getfield 38, 3) by decide +kernel) (mx_fdo ow197 fd120038)
set_option maxRecDepth 20000 in
theorem i197_20 : ex_ X d 197 20 [v0, .int x] [w0] h Q = ex_ X d 197 21 [v0, .int x] [.int x, w0] h Q := ex_nx (show mx_at 197 20 = some (.iload_n 1, 1) by decide +kernel) rfl
set_option maxRecDepth 20000 in
theorem i197_21 : ex_ X d 197 21 [v0, v1] [.int i, .ref a] h Q = (ik_ h a i = true ∧ ex_ X d 197 22 [v0, v1] [.int (ia_ h a i)] h Q) := R_iald (show mx_at 197 21 = some (.iaload, 1) by decide +kernel)
set_option maxRecDepth 20000 in
theorem i197_22 : ex_ X d 197 22 [v0, v1] [w0] h Q = ex_ X d 197 30 [v0, v1] [w0] h Q := R_to (show mx_at 197 22 = some (.goto 8, 3) by decide +kernel) rfl rfl
set_option maxRecDepth 20000 in
theorem i197_25 : ex_ X d 197 25 [.ref a, v1] [] h Q = ex_ X d 197 26 [.ref a, v1] [.ref a] h Q := ex_nx (show mx_at 197 25 = some (.aload_n 0, 1) by decide +kernel) rfl
set_option maxRecDepth 20000 in
theorem i197_26 : ex_ X d 197 26 [v0, v1] [w0] h Q = ex_ X d 197 27 [v0, v1] [.int 2, w0] h Q := R_iconst (show mx_at 197 26 = some (.iconst 2, 1) by decide +kernel) (by decide)
set_option maxRecDepth 20000 in
theorem i197_27 (hc : co_ h a = some 12) : ex_ X (d + 1) 197 27 [v0, v1] [.int x0, .ref a] h Q = ev_ X d 123 [.ref a, .int x0] h (fun r h' => ex_ X (d + 1) 197 30 [v0, v1] (r.toList ++ []) h' Q) := R_vir (show mx_at 197 27 = some (.invokevirtual 131, 3) by decide +kernel) (mx_clk ow197 cc12_131) (Nat.le_of_ble_eq_true rfl) rfl rfl hc rfl (Nat.le_of_ble_eq_true rfl) (Nat.le_of_ble_eq_true rfl) (by rw [ml123]; exact Nat.le_of_ble_eq_true rfl)
set_option maxRecDepth 20000 in
theorem i197_30 : ex_ X d 197 30 [v0, v1] [.int x] h Q = Q (some (.int x)) h := ex_ret (show mx_at 197 30 = some (.ireturn, 1) by decide +kernel) (mx_retI rt197)
theorem i197_e : ev_ X d 197 [.ref a, .int x0] h Q = ex_ X d 197 0 [.ref a, .int x0] [] h Q := by rw [ev_, ml197]; rfl
-- 198 X12_isSheet
set_option maxRecDepth 20000 in
theorem i198_0 : ex_ X d 198 0 [.int x] [] h Q = ex_ X d 198 1 [.int x] [.int x] h Q := ex_nx (show mx_at 198 0 = some (.iload_n 0, 1) by decide +kernel) rfl
set_option maxRecDepth 20000 in
theorem i198_1 : ex_ X d 198 1 [v0] [.int x] h Q = ex_ X d 198 2 [v0] [.long x.toInt64] h Q := ex_nx (show mx_at 198 1 = some (.i2l, 1) by decide +kernel) rfl
set_option maxRecDepth 20000 in
theorem i198_2 : ex_ X d 198 2 [v0] [w0] h Q = ex_ X d 198 3 [v0] [.long 0, w0] h Q := ex_nx (show mx_at 198 2 = some (.lconst 0, 1) by decide +kernel) rfl
set_option maxRecDepth 20000 in
theorem i198_3 : ex_ X d 198 3 [v0] [w0, w1] h Q = ex_ X d 198 6 [v0] [.long 3, w0, w1] h Q := R_ldc2 (show mx_at 198 3 = some (.ldc2_w 256, 3) by decide +kernel) ow198 kl120256
set_option maxRecDepth 20000 in
theorem i198_6 : ex_ X (d + 1) 198 6 [v0] [.long j2, .long j1, .long j0] h Q = ev_ X d 124 [.long j0, .long j1, .long j2] h (fun r h' => ex_ X (d + 1) 198 9 [v0] (r.toList ++ []) h' Q) := R_stat (show mx_at 198 6 = some (.invokestatic 54, 3) by decide +kernel) (mx_clk ow198 cc12_54) (Nat.le_of_ble_eq_true rfl) rfl rfl (Nat.le_of_ble_eq_true rfl) ml124 (Nat.le_of_ble_eq_true rfl)
set_option maxRecDepth 20000 in
theorem i198_9 (hx : x = 0 ∨ x = 1) : ex_ X d 198 9 [v0] [.int x] h Q = Q (some (.int x)) h := ex_ret (show mx_at 198 9 = some (.ireturn, 1) by decide +kernel) (mx_retZ hx rt198)
theorem i198_e : ev_ X d 198 [.int x0] h Q = ex_ X d 198 0 [.int x0] [] h Q := by rw [ev_, ml198]; rfl
-- 199 X12_sheet
set_option maxRecDepth 20000 in
theorem i199_0 : ex_ X d 199 0 [v0, .int x, v2, v3, v4] [] h Q = ex_ X d 199 1 [v0, .int x, v2, v3, v4] [.int x] h Q := ex_nx (show mx_at 199 0 = some (.iload_n 1, 1) by decide +kernel) rfl
set_option maxRecDepth 20000 in
theorem i199_1 : ex_ X (d + 1) 199 1 [v0, v1, v2, v3, v4] [.int x0] h Q = ev_ X d 198 [.int x0] h (fun r h' => ex_ X (d + 1) 199 4 [v0, v1, v2, v3, v4] (r.toList ++ []) h' Q) := R_stat (show mx_at 199 1 = some (.invokestatic 213, 3) by decide +kernel) (mx_clk ow199 cc12_213) (Nat.le_of_ble_eq_true rfl) rfl rfl (Nat.le_of_ble_eq_true rfl) ml198 (Nat.le_of_ble_eq_true rfl)
set_option maxRecDepth 20000 in
theorem i199_4 : ex_ X d 199 4 [v0, v1, v2, v3, v4] [.int x] h Q = if x = 0 then ex_ X d 199 29 [v0, v1, v2, v3, v4] [] h Q else ex_ X d 199 7 [v0, v1, v2, v3, v4] [] h Q := (R_br (show mx_at 199 4 = some (.ifCond .eq 25, 3) by decide +kernel) rfl rfl).trans mx_ite
set_option maxRecDepth 20000 in
theorem i199_7 : ex_ X d 199 7 [v0, v1, .int x, v3, v4] [] h Q = ex_ X d 199 8 [v0, v1, .int x, v3, v4] [.int x] h Q := ex_nx (show mx_at 199 7 = some (.iload_n 2, 1) by decide +kernel) rfl
set_option maxRecDepth 20000 in
theorem i199_8 : ex_ X d 199 8 [v0, v1, v2, v3, v4] [.int x] h Q = if x = 0 then ex_ X d 199 35 [v0, v1, v2, v3, v4] [] h Q else ex_ X d 199 11 [v0, v1, v2, v3, v4] [] h Q := (R_br (show mx_at 199 8 = some (.ifCond .eq 27, 3) by decide +kernel) rfl rfl).trans mx_ite
set_option maxRecDepth 20000 in
theorem i199_11 : ex_ X d 199 11 [v0, v1, .int x, v3, v4] [] h Q = ex_ X d 199 12 [v0, v1, .int x, v3, v4] [.int x] h Q := ex_nx (show mx_at 199 11 = some (.iload_n 2, 1) by decide +kernel) rfl
set_option maxRecDepth 20000 in
theorem i199_12 : ex_ X d 199 12 [v0, v1, v2, v3, v4] [w0] h Q = ex_ X d 199 14 [v0, v1, v2, v3, v4] [.int 8, w0] h Q := R_bipush (show mx_at 199 12 = some (.bipush 8, 2) by decide +kernel) (by decide)
set_option maxRecDepth 20000 in
theorem i199_14 : ex_ X d 199 14 [v0, v1, v2, v3, v4] [.int y, .int x] h Q = if x = y then ex_ X d 199 35 [v0, v1, v2, v3, v4] [] h Q else ex_ X d 199 17 [v0, v1, v2, v3, v4] [] h Q := (R_br (show mx_at 199 14 = some (.if_icmp .eq 21, 3) by decide +kernel) rfl rfl).trans mx_ite
set_option maxRecDepth 20000 in
theorem i199_17 : ex_ X d 199 17 [v0, v1, .int x, v3, v4] [] h Q = ex_ X d 199 18 [v0, v1, .int x, v3, v4] [.int x] h Q := ex_nx (show mx_at 199 17 = some (.iload_n 2, 1) by decide +kernel) rfl
set_option maxRecDepth 20000 in
theorem i199_18 : ex_ X d 199 18 [v0, v1, v2, v3, v4] [w0] h Q = ex_ X d 199 20 [v0, v1, v2, v3, v4] [.int 16, w0] h Q := R_bipush (show mx_at 199 18 = some (.bipush 16, 2) by decide +kernel) (by decide)
set_option maxRecDepth 20000 in
theorem i199_20 : ex_ X d 199 20 [v0, v1, v2, v3, v4] [.int y, .int x] h Q = if x = y then ex_ X d 199 35 [v0, v1, v2, v3, v4] [] h Q else ex_ X d 199 23 [v0, v1, v2, v3, v4] [] h Q := (R_br (show mx_at 199 20 = some (.if_icmp .eq 15, 3) by decide +kernel) rfl rfl).trans mx_ite
set_option maxRecDepth 20000 in
theorem i199_23 : ex_ X d 199 23 [v0, v1, .int x, v3, v4] [] h Q = ex_ X d 199 24 [v0, v1, .int x, v3, v4] [.int x] h Q := ex_nx (show mx_at 199 23 = some (.iload_n 2, 1) by decide +kernel) rfl
set_option maxRecDepth 20000 in
theorem i199_24 : ex_ X d 199 24 [v0, v1, v2, v3, v4] [w0] h Q = ex_ X d 199 26 [v0, v1, v2, v3, v4] [.int 32, w0] h Q := R_bipush (show mx_at 199 24 = some (.bipush 32, 2) by decide +kernel) (by decide)
set_option maxRecDepth 20000 in
theorem i199_26 : ex_ X d 199 26 [v0, v1, v2, v3, v4] [.int y, .int x] h Q = if x = y then ex_ X d 199 35 [v0, v1, v2, v3, v4] [] h Q else ex_ X d 199 29 [v0, v1, v2, v3, v4] [] h Q := (R_br (show mx_at 199 26 = some (.if_icmp .eq 9, 3) by decide +kernel) rfl rfl).trans mx_ite
set_option maxRecDepth 20000 in
theorem i199_29 : ex_ X d 199 29 [.ref a, v1, v2, v3, v4] [] h Q = ex_ X d 199 30 [.ref a, v1, v2, v3, v4] [.ref a] h Q := ex_nx (show mx_at 199 29 = some (.aload_n 0, 1) by decide +kernel) rfl
set_option maxRecDepth 20000 in
theorem i199_30 : ex_ X d 199 30 [v0, v1, v2, v3, v4] [w0] h Q = ex_ X d 199 31 [v0, v1, v2, v3, v4] [.int 1, w0] h Q := R_iconst (show mx_at 199 30 = some (.iconst 1, 1) by decide +kernel) (by decide)
set_option maxRecDepth 20000 in
theorem i199_31 (hc : co_ h a = some 12) : ex_ X (d + 1) 199 31 [v0, v1, v2, v3, v4] [.int x0, .ref a] h Q = ev_ X d 123 [.ref a, .int x0] h (fun r h' => ex_ X (d + 1) 199 34 [v0, v1, v2, v3, v4] (r.toList ++ []) h' Q) := R_vir (show mx_at 199 31 = some (.invokevirtual 131, 3) by decide +kernel) (mx_clk ow199 cc12_131) (Nat.le_of_ble_eq_true rfl) rfl rfl hc rfl (Nat.le_of_ble_eq_true rfl) (Nat.le_of_ble_eq_true rfl) (by rw [ml123]; exact Nat.le_of_ble_eq_true rfl)
set_option maxRecDepth 20000 in
theorem i199_34 : ex_ X d 199 34 [v0, v1, v2, v3, v4] [.int x] h Q = Q (some (.int x)) h := ex_ret (show mx_at 199 34 = some (.ireturn, 1) by decide +kernel) (mx_retI rt199)
set_option maxRecDepth 20000 in
theorem i199_35 : ex_ X d 199 35 [v0, v1, .int x, v3, v4] [] h Q = ex_ X d 199 36 [v0, v1, .int x, v3, v4] [.int x] h Q := ex_nx (show mx_at 199 35 = some (.iload_n 2, 1) by decide +kernel) rfl
set_option maxRecDepth 20000 in
theorem i199_36 : ex_ X d 199 36 [v0, v1, v2, v3, v4] [.int x] h Q = if x = 0 then ex_ X d 199 49 [v0, v1, v2, v3, v4] [] h Q else ex_ X d 199 39 [v0, v1, v2, v3, v4] [] h Q := (R_br (show mx_at 199 36 = some (.ifCond .eq 13, 3) by decide +kernel) rfl rfl).trans mx_ite
set_option maxRecDepth 20000 in
theorem i199_39 : ex_ X d 199 39 [v0, v1, v2, .int x, v4] [] h Q = ex_ X d 199 40 [v0, v1, v2, .int x, v4] [.int x] h Q := ex_nx (show mx_at 199 39 = some (.iload_n 3, 1) by decide +kernel) rfl
set_option maxRecDepth 20000 in
theorem i199_40 : ex_ X d 199 40 [v0, v1, v2, v3, v4] [.int x] h Q = if 0 ≤ x then ex_ X d 199 49 [v0, v1, v2, v3, v4] [] h Q else ex_ X d 199 43 [v0, v1, v2, v3, v4] [] h Q := (R_br (show mx_at 199 40 = some (.ifCond .ge 9, 3) by decide +kernel) rfl rfl).trans mx_ite
set_option maxRecDepth 20000 in
theorem i199_43 : ex_ X d 199 43 [.ref a, v1, v2, v3, v4] [] h Q = ex_ X d 199 44 [.ref a, v1, v2, v3, v4] [.ref a] h Q := ex_nx (show mx_at 199 43 = some (.aload_n 0, 1) by decide +kernel) rfl
set_option maxRecDepth 20000 in
theorem i199_44 : ex_ X d 199 44 [v0, v1, v2, v3, v4] [w0] h Q = ex_ X d 199 45 [v0, v1, v2, v3, v4] [.int 3, w0] h Q := R_iconst (show mx_at 199 44 = some (.iconst 3, 1) by decide +kernel) (by decide)
set_option maxRecDepth 20000 in
theorem i199_45 (hc : co_ h a = some 12) : ex_ X (d + 1) 199 45 [v0, v1, v2, v3, v4] [.int x0, .ref a] h Q = ev_ X d 123 [.ref a, .int x0] h (fun r h' => ex_ X (d + 1) 199 48 [v0, v1, v2, v3, v4] (r.toList ++ []) h' Q) := R_vir (show mx_at 199 45 = some (.invokevirtual 131, 3) by decide +kernel) (mx_clk ow199 cc12_131) (Nat.le_of_ble_eq_true rfl) rfl rfl hc rfl (Nat.le_of_ble_eq_true rfl) (Nat.le_of_ble_eq_true rfl) (by rw [ml123]; exact Nat.le_of_ble_eq_true rfl)
set_option maxRecDepth 20000 in
theorem i199_48 : ex_ X d 199 48 [v0, v1, v2, v3, v4] [.int x] h Q = Q (some (.int x)) h := ex_ret (show mx_at 199 48 = some (.ireturn, 1) by decide +kernel) (mx_retI rt199)
set_option maxRecDepth 20000 in
theorem i199_49 : ex_ X d 199 49 [v0, v1, .int x, v3, v4] [] h Q = ex_ X d 199 50 [v0, v1, .int x, v3, v4] [.int x] h Q := ex_nx (show mx_at 199 49 = some (.iload_n 2, 1) by decide +kernel) rfl
set_option maxRecDepth 20000 in
theorem i199_50 : ex_ X d 199 50 [v0, v1, v2, v3, v4] [.int x] h Q = if x = 0 then ex_ X d 199 65 [v0, v1, v2, v3, v4] [] h Q else ex_ X d 199 53 [v0, v1, v2, v3, v4] [] h Q := (R_br (show mx_at 199 50 = some (.ifCond .eq 15, 3) by decide +kernel) rfl rfl).trans mx_ite
set_option maxRecDepth 20000 in
theorem i199_53 : ex_ X d 199 53 [v0, v1, v2, .int x, v4] [] h Q = ex_ X d 199 54 [v0, v1, v2, .int x, v4] [.int x] h Q := ex_nx (show mx_at 199 53 = some (.iload_n 3, 1) by decide +kernel) rfl
set_option maxRecDepth 20000 in
theorem i199_54 : ex_ X d 199 54 [v0, v1, v2, v3, v4] [w0] h Q = ex_ X d 199 56 [v0, v1, v2, v3, v4] [.int 40, w0] h Q := R_bipush (show mx_at 199 54 = some (.bipush 40, 2) by decide +kernel) (by decide)
set_option maxRecDepth 20000 in
theorem i199_56 : ex_ X d 199 56 [v0, v1, v2, v3, v4] [.int y, .int x] h Q = if x ≤ y then ex_ X d 199 65 [v0, v1, v2, v3, v4] [] h Q else ex_ X d 199 59 [v0, v1, v2, v3, v4] [] h Q := (R_br (show mx_at 199 56 = some (.if_icmp .le 9, 3) by decide +kernel) rfl rfl).trans mx_ite
set_option maxRecDepth 20000 in
theorem i199_59 : ex_ X d 199 59 [.ref a, v1, v2, v3, v4] [] h Q = ex_ X d 199 60 [.ref a, v1, v2, v3, v4] [.ref a] h Q := ex_nx (show mx_at 199 59 = some (.aload_n 0, 1) by decide +kernel) rfl
set_option maxRecDepth 20000 in
theorem i199_60 : ex_ X d 199 60 [v0, v1, v2, v3, v4] [w0] h Q = ex_ X d 199 61 [v0, v1, v2, v3, v4] [.int 1, w0] h Q := R_iconst (show mx_at 199 60 = some (.iconst 1, 1) by decide +kernel) (by decide)
set_option maxRecDepth 20000 in
theorem i199_61 (hc : co_ h a = some 12) : ex_ X (d + 1) 199 61 [v0, v1, v2, v3, v4] [.int x0, .ref a] h Q = ev_ X d 123 [.ref a, .int x0] h (fun r h' => ex_ X (d + 1) 199 64 [v0, v1, v2, v3, v4] (r.toList ++ []) h' Q) := R_vir (show mx_at 199 61 = some (.invokevirtual 131, 3) by decide +kernel) (mx_clk ow199 cc12_131) (Nat.le_of_ble_eq_true rfl) rfl rfl hc rfl (Nat.le_of_ble_eq_true rfl) (Nat.le_of_ble_eq_true rfl) (by rw [ml123]; exact Nat.le_of_ble_eq_true rfl)
set_option maxRecDepth 20000 in
theorem i199_64 : ex_ X d 199 64 [v0, v1, v2, v3, v4] [.int x] h Q = Q (some (.int x)) h := ex_ret (show mx_at 199 64 = some (.ireturn, 1) by decide +kernel) (mx_retI rt199)
set_option maxRecDepth 20000 in
theorem i199_65 : ex_ X d 199 65 [.ref a, v1, v2, v3, v4] [] h Q = ex_ X d 199 66 [.ref a, v1, v2, v3, v4] [.ref a] h Q := ex_nx (show mx_at 199 65 = some (.aload_n 0, 1) by decide +kernel) rfl
set_option maxRecDepth 20000 in
theorem i199_66 : ex_ X d 199 66 [v0, v1, v2, v3, v4] [.ref a] h Q = (gk_ h a 20 [(12, 0)] = true ∧ ex_ X d 199 69 [v0, v1, v2, v3, v4] [gv_ h a 20] h Q) := R_getf (show mx_at 199 66 = some (.getfield 41, 3) by decide +kernel) (mx_fdo ow199 fd120041)
set_option maxRecDepth 20000 in
theorem i199_69 : ex_ X d 199 69 [v0, .int x, v2, v3, v4] [w0] h Q = ex_ X d 199 70 [v0, .int x, v2, v3, v4] [.int x, w0] h Q := ex_nx (show mx_at 199 69 = some (.iload_n 1, 1) by decide +kernel) rfl
set_option maxRecDepth 20000 in
theorem i199_70 : ex_ X d 199 70 [v0, v1, .int x, v3, v4] [w0, w1] h Q = ex_ X d 199 71 [v0, v1, .int x, v3, v4] [.int x, w0, w1] h Q := ex_nx (show mx_at 199 70 = some (.iload_n 2, 1) by decide +kernel) rfl
set_option maxRecDepth 20000 in
theorem i199_71 : ex_ X d 199 71 [v0, v1, v2, v3, v4] [.int x, .int i, .ref a] h Q = (ik_ h a i = true ∧ ex_ X d 199 72 [v0, v1, v2, v3, v4] [] (is_ h a i x) Q) := R_iast (show mx_at 199 71 = some (.iastore, 1) by decide +kernel)
set_option maxRecDepth 20000 in
theorem i199_72 : ex_ X d 199 72 [.ref a, v1, v2, v3, v4] [] h Q = ex_ X d 199 73 [.ref a, v1, v2, v3, v4] [.ref a] h Q := ex_nx (show mx_at 199 72 = some (.aload_n 0, 1) by decide +kernel) rfl
set_option maxRecDepth 20000 in
theorem i199_73 : ex_ X d 199 73 [v0, v1, v2, v3, v4] [.ref a] h Q = (gk_ h a 21 [(12, 0)] = true ∧ ex_ X d 199 76 [v0, v1, v2, v3, v4] [gv_ h a 21] h Q) := R_getf (show mx_at 199 73 = some (.getfield 44, 3) by decide +kernel) (mx_fdo ow199 fd120044)
set_option maxRecDepth 20000 in
theorem i199_76 : ex_ X d 199 76 [v0, .int x, v2, v3, v4] [w0] h Q = ex_ X d 199 77 [v0, .int x, v2, v3, v4] [.int x, w0] h Q := ex_nx (show mx_at 199 76 = some (.iload_n 1, 1) by decide +kernel) rfl
set_option maxRecDepth 20000 in
theorem i199_77 : ex_ X d 199 77 [v0, v1, .int x, v3, v4] [w0, w1] h Q = ex_ X d 199 78 [v0, v1, .int x, v3, v4] [.int x, w0, w1] h Q := ex_nx (show mx_at 199 77 = some (.iload_n 2, 1) by decide +kernel) rfl
set_option maxRecDepth 20000 in
theorem i199_78 : ex_ X d 199 78 [v0, v1, v2, v3, v4] [.int x, w0, w1] h Q = if ¬ x = 0 then ex_ X d 199 85 [v0, v1, v2, v3, v4] [w0, w1] h Q else ex_ X d 199 81 [v0, v1, v2, v3, v4] [w0, w1] h Q := (R_br (show mx_at 199 78 = some (.ifCond .ne 7, 3) by decide +kernel) rfl rfl).trans mx_ite
set_option maxRecDepth 20000 in
theorem i199_81 : ex_ X d 199 81 [v0, v1, v2, v3, v4] [w0, w1] h Q = ex_ X d 199 82 [v0, v1, v2, v3, v4] [.int 0, w0, w1] h Q := R_iconst (show mx_at 199 81 = some (.iconst 0, 1) by decide +kernel) (by decide)
set_option maxRecDepth 20000 in
theorem i199_82 : ex_ X d 199 82 [v0, v1, v2, v3, v4] [w0, w1, w2] h Q = ex_ X d 199 86 [v0, v1, v2, v3, v4] [w0, w1, w2] h Q := R_to (show mx_at 199 82 = some (.goto 4, 3) by decide +kernel) rfl rfl
set_option maxRecDepth 20000 in
theorem i199_85 : ex_ X d 199 85 [v0, v1, v2, .int x, v4] [w0, w1] h Q = ex_ X d 199 86 [v0, v1, v2, .int x, v4] [.int x, w0, w1] h Q := ex_nx (show mx_at 199 85 = some (.iload_n 3, 1) by decide +kernel) rfl
set_option maxRecDepth 20000 in
theorem i199_86 : ex_ X d 199 86 [v0, v1, v2, v3, v4] [.int x, .int i, .ref a] h Q = (ik_ h a i = true ∧ ex_ X d 199 87 [v0, v1, v2, v3, v4] [] (is_ h a i x) Q) := R_iast (show mx_at 199 86 = some (.iastore, 1) by decide +kernel)
set_option maxRecDepth 20000 in
theorem i199_87 : ex_ X d 199 87 [v0, v1, v2, v3, v4] [] h Q = ex_ X d 199 88 [v0, v1, v2, v3, v4] [.int 0] h Q := R_iconst (show mx_at 199 87 = some (.iconst 0, 1) by decide +kernel) (by decide)
set_option maxRecDepth 20000 in
theorem i199_88 : ex_ X d 199 88 [v0, v1, v2, v3, v4] [.int x] h Q = (mx_nl v3 = true ∧ ex_ X d 199 90 [v0, v1, v2, v3, .int x] [] h Q) := mx_t1 (R_st (ok := mx_isI) (n := 4) (w := 2) (show mx_at 199 88 = some (.istore 4, 2) by decide +kernel) (fun _ _ => rfl) (Nat.le_of_ble_eq_true rfl)) rfl
set_option maxRecDepth 20000 in
theorem i199_90 : ex_ X d 199 90 [v0, v1, v2, v3, .int x] [] h Q = ex_ X d 199 92 [v0, v1, v2, v3, .int x] [.int x] h Q := ex_nx (show mx_at 199 90 = some (.iload 4, 2) by decide +kernel) rfl
set_option maxRecDepth 20000 in
theorem i199_92 : ex_ X d 199 92 [v0, v1, v2, v3, v4] [w0] h Q = ex_ X d 199 94 [v0, v1, v2, v3, v4] [.int 40, w0] h Q := R_bipush (show mx_at 199 92 = some (.bipush 40, 2) by decide +kernel) (by decide)
set_option maxRecDepth 20000 in
theorem i199_94 : ex_ X d 199 94 [v0, v1, v2, v3, v4] [.int y, .int x] h Q = if y ≤ x then ex_ X d 199 116 [v0, v1, v2, v3, v4] [] h Q else ex_ X d 199 97 [v0, v1, v2, v3, v4] [] h Q := (R_br (show mx_at 199 94 = some (.if_icmp .ge 22, 3) by decide +kernel) rfl rfl).trans mx_ite
set_option maxRecDepth 20000 in
theorem i199_97 : ex_ X d 199 97 [.ref a, v1, v2, v3, v4] [] h Q = ex_ X d 199 98 [.ref a, v1, v2, v3, v4] [.ref a] h Q := ex_nx (show mx_at 199 97 = some (.aload_n 0, 1) by decide +kernel) rfl
set_option maxRecDepth 20000 in
theorem i199_98 : ex_ X d 199 98 [v0, v1, v2, v3, v4] [.ref a] h Q = (gk_ h a 22 [(12, 0)] = true ∧ ex_ X d 199 101 [v0, v1, v2, v3, v4] [gv_ h a 22] h Q) := R_getf (show mx_at 199 98 = some (.getfield 47, 3) by decide +kernel) (mx_fdo ow199 fd120047)
set_option maxRecDepth 20000 in
theorem i199_101 : ex_ X d 199 101 [v0, v1, v2, v3, v4] [w0] h Q = ex_ X d 199 103 [v0, v1, v2, v3, v4] [.int 40, w0] h Q := R_bipush (show mx_at 199 101 = some (.bipush 40, 2) by decide +kernel) (by decide)
set_option maxRecDepth 20000 in
theorem i199_103 : ex_ X d 199 103 [v0, .int x, v2, v3, v4] [w0, w1] h Q = ex_ X d 199 104 [v0, .int x, v2, v3, v4] [.int x, w0, w1] h Q := ex_nx (show mx_at 199 103 = some (.iload_n 1, 1) by decide +kernel) rfl
set_option maxRecDepth 20000 in
theorem i199_104 : ex_ X d 199 104 [v0, v1, v2, v3, v4] [.int y, .int x, w0] h Q = ex_ X d 199 105 [v0, v1, v2, v3, v4] [.int (x * y), w0] h Q := ex_nx (show mx_at 199 104 = some (.imul, 1) by decide +kernel) rfl
set_option maxRecDepth 20000 in
theorem i199_105 : ex_ X d 199 105 [v0, v1, v2, v3, .int x] [w0, w1] h Q = ex_ X d 199 107 [v0, v1, v2, v3, .int x] [.int x, w0, w1] h Q := ex_nx (show mx_at 199 105 = some (.iload 4, 2) by decide +kernel) rfl
set_option maxRecDepth 20000 in
theorem i199_107 : ex_ X d 199 107 [v0, v1, v2, v3, v4] [.int y, .int x, w0] h Q = ex_ X d 199 108 [v0, v1, v2, v3, v4] [.int (x + y), w0] h Q := ex_nx (show mx_at 199 107 = some (.iadd, 1) by decide +kernel) rfl
set_option maxRecDepth 20000 in
theorem i199_108 : ex_ X d 199 108 [v0, v1, v2, v3, v4] [w0, w1] h Q = ex_ X d 199 109 [v0, v1, v2, v3, v4] [.int 0, w0, w1] h Q := R_iconst (show mx_at 199 108 = some (.iconst 0, 1) by decide +kernel) (by decide)
set_option maxRecDepth 20000 in
theorem i199_109 : ex_ X d 199 109 [v0, v1, v2, v3, v4] [.int x, .int i, .ref a] h Q = (ik_ h a i = true ∧ ex_ X d 199 110 [v0, v1, v2, v3, v4] [] (is_ h a i x) Q) := R_iast (show mx_at 199 109 = some (.iastore, 1) by decide +kernel)
set_option maxRecDepth 20000 in
theorem i199_110 : ex_ X d 199 110 [v0, v1, v2, v3, .int x] [] h Q = (mx_nl v3 = true ∧ ex_ X d 199 113 [v0, v1, v2, v3, .int (x + 1)] [] h Q) := R_iinc (n := 4) (c := 1) (show mx_at 199 110 = some (.iinc 4 1, 3) by decide +kernel) rfl
set_option maxRecDepth 20000 in
theorem i199_113 : ex_ X d 199 113 [v0, v1, v2, v3, v4] [] h Q = ex_ X d 199 90 [v0, v1, v2, v3, v4] [] h Q := R_to (show mx_at 199 113 = some (.goto (-23), 3) by decide +kernel) rfl rfl
set_option maxRecDepth 20000 in
theorem i199_116 : ex_ X d 199 116 [v0, v1, v2, v3, v4] [] h Q = ex_ X d 199 117 [v0, v1, v2, v3, v4] [.int 1] h Q := R_iconst (show mx_at 199 116 = some (.iconst 1, 1) by decide +kernel) (by decide)
set_option maxRecDepth 20000 in
theorem i199_117 : ex_ X d 199 117 [v0, v1, v2, v3, v4] [.int x] h Q = Q (some (.int x)) h := ex_ret (show mx_at 199 117 = some (.ireturn, 1) by decide +kernel) (mx_retI rt199)
theorem i199_e : ev_ X d 199 [.ref a, .int x0, .int x1, .int x2] h Q = ex_ X d 199 0 [.ref a, .int x0, .int x1, .int x2, .double 0] [] h Q := by rw [ev_, ml199]; rfl
-- 200 X12_put
set_option maxRecDepth 20000 in
theorem i200_0 : ex_ X d 200 0 [v0, .int x, v2, v3] [] h Q = ex_ X d 200 1 [v0, .int x, v2, v3] [.int x] h Q := ex_nx (show mx_at 200 0 = some (.iload_n 1, 1) by decide +kernel) rfl
set_option maxRecDepth 20000 in
theorem i200_1 : ex_ X (d + 1) 200 1 [v0, v1, v2, v3] [.int x0] h Q = ev_ X d 198 [.int x0] h (fun r h' => ex_ X (d + 1) 200 4 [v0, v1, v2, v3] (r.toList ++ []) h' Q) := R_stat (show mx_at 200 1 = some (.invokestatic 213, 3) by decide +kernel) (mx_clk ow200 cc12_213) (Nat.le_of_ble_eq_true rfl) rfl rfl (Nat.le_of_ble_eq_true rfl) ml198 (Nat.le_of_ble_eq_true rfl)
set_option maxRecDepth 20000 in
theorem i200_4 : ex_ X d 200 4 [v0, v1, v2, v3] [.int x] h Q = if ¬ x = 0 then ex_ X d 200 13 [v0, v1, v2, v3] [] h Q else ex_ X d 200 7 [v0, v1, v2, v3] [] h Q := (R_br (show mx_at 200 4 = some (.ifCond .ne 9, 3) by decide +kernel) rfl rfl).trans mx_ite
set_option maxRecDepth 20000 in
theorem i200_7 : ex_ X d 200 7 [.ref a, v1, v2, v3] [] h Q = ex_ X d 200 8 [.ref a, v1, v2, v3] [.ref a] h Q := ex_nx (show mx_at 200 7 = some (.aload_n 0, 1) by decide +kernel) rfl
set_option maxRecDepth 20000 in
theorem i200_8 : ex_ X d 200 8 [v0, v1, v2, v3] [w0] h Q = ex_ X d 200 9 [v0, v1, v2, v3] [.int 1, w0] h Q := R_iconst (show mx_at 200 8 = some (.iconst 1, 1) by decide +kernel) (by decide)
set_option maxRecDepth 20000 in
theorem i200_9 (hc : co_ h a = some 12) : ex_ X (d + 1) 200 9 [v0, v1, v2, v3] [.int x0, .ref a] h Q = ev_ X d 123 [.ref a, .int x0] h (fun r h' => ex_ X (d + 1) 200 12 [v0, v1, v2, v3] (r.toList ++ []) h' Q) := R_vir (show mx_at 200 9 = some (.invokevirtual 131, 3) by decide +kernel) (mx_clk ow200 cc12_131) (Nat.le_of_ble_eq_true rfl) rfl rfl hc rfl (Nat.le_of_ble_eq_true rfl) (Nat.le_of_ble_eq_true rfl) (by rw [ml123]; exact Nat.le_of_ble_eq_true rfl)
set_option maxRecDepth 20000 in
theorem i200_12 : ex_ X d 200 12 [v0, v1, v2, v3] [.int x] h Q = Q (some (.int x)) h := ex_ret (show mx_at 200 12 = some (.ireturn, 1) by decide +kernel) (mx_retI rt200)
set_option maxRecDepth 20000 in
theorem i200_13 : ex_ X d 200 13 [.ref a, v1, v2, v3] [] h Q = ex_ X d 200 14 [.ref a, v1, v2, v3] [.ref a] h Q := ex_nx (show mx_at 200 13 = some (.aload_n 0, 1) by decide +kernel) rfl
set_option maxRecDepth 20000 in
theorem i200_14 : ex_ X d 200 14 [v0, v1, v2, v3] [.ref a] h Q = (gk_ h a 20 [(12, 0)] = true ∧ ex_ X d 200 17 [v0, v1, v2, v3] [gv_ h a 20] h Q) := R_getf (show mx_at 200 14 = some (.getfield 41, 3) by decide +kernel) (mx_fdo ow200 fd120041)
set_option maxRecDepth 20000 in
theorem i200_17 : ex_ X d 200 17 [v0, .int x, v2, v3] [w0] h Q = ex_ X d 200 18 [v0, .int x, v2, v3] [.int x, w0] h Q := ex_nx (show mx_at 200 17 = some (.iload_n 1, 1) by decide +kernel) rfl
set_option maxRecDepth 20000 in
theorem i200_18 : ex_ X d 200 18 [v0, v1, v2, v3] [.int i, .ref a] h Q = (ik_ h a i = true ∧ ex_ X d 200 19 [v0, v1, v2, v3] [.int (ia_ h a i)] h Q) := R_iald (show mx_at 200 18 = some (.iaload, 1) by decide +kernel)
set_option maxRecDepth 20000 in
theorem i200_19 : ex_ X d 200 19 [v0, v1, v2, v3] [.int x] h Q = if ¬ x = 0 then ex_ X d 200 28 [v0, v1, v2, v3] [] h Q else ex_ X d 200 22 [v0, v1, v2, v3] [] h Q := (R_br (show mx_at 200 19 = some (.ifCond .ne 9, 3) by decide +kernel) rfl rfl).trans mx_ite
set_option maxRecDepth 20000 in
theorem i200_22 : ex_ X d 200 22 [.ref a, v1, v2, v3] [] h Q = ex_ X d 200 23 [.ref a, v1, v2, v3] [.ref a] h Q := ex_nx (show mx_at 200 22 = some (.aload_n 0, 1) by decide +kernel) rfl
set_option maxRecDepth 20000 in
theorem i200_23 : ex_ X d 200 23 [v0, v1, v2, v3] [w0] h Q = ex_ X d 200 24 [v0, v1, v2, v3] [.int 2, w0] h Q := R_iconst (show mx_at 200 23 = some (.iconst 2, 1) by decide +kernel) (by decide)
set_option maxRecDepth 20000 in
theorem i200_24 (hc : co_ h a = some 12) : ex_ X (d + 1) 200 24 [v0, v1, v2, v3] [.int x0, .ref a] h Q = ev_ X d 123 [.ref a, .int x0] h (fun r h' => ex_ X (d + 1) 200 27 [v0, v1, v2, v3] (r.toList ++ []) h' Q) := R_vir (show mx_at 200 24 = some (.invokevirtual 131, 3) by decide +kernel) (mx_clk ow200 cc12_131) (Nat.le_of_ble_eq_true rfl) rfl rfl hc rfl (Nat.le_of_ble_eq_true rfl) (Nat.le_of_ble_eq_true rfl) (by rw [ml123]; exact Nat.le_of_ble_eq_true rfl)
set_option maxRecDepth 20000 in
theorem i200_27 : ex_ X d 200 27 [v0, v1, v2, v3] [.int x] h Q = Q (some (.int x)) h := ex_ret (show mx_at 200 27 = some (.ireturn, 1) by decide +kernel) (mx_retI rt200)
set_option maxRecDepth 20000 in
theorem i200_28 : ex_ X d 200 28 [v0, v1, .int x, v3] [] h Q = ex_ X d 200 29 [v0, v1, .int x, v3] [.int x] h Q := ex_nx (show mx_at 200 28 = some (.iload_n 2, 1) by decide +kernel) rfl
set_option maxRecDepth 20000 in
theorem i200_29 : ex_ X d 200 29 [v0, v1, v2, v3] [.int x] h Q = ex_ X d 200 30 [v0, v1, v2, v3] [.long x.toInt64] h Q := ex_nx (show mx_at 200 29 = some (.i2l, 1) by decide +kernel) rfl
set_option maxRecDepth 20000 in
theorem i200_30 : ex_ X d 200 30 [v0, v1, v2, v3] [w0] h Q = ex_ X d 200 31 [v0, v1, v2, v3] [.long 0, w0] h Q := ex_nx (show mx_at 200 30 = some (.lconst 0, 1) by decide +kernel) rfl
set_option maxRecDepth 20000 in
theorem i200_31 : ex_ X d 200 31 [.ref a, v1, v2, v3] [w0, w1] h Q = ex_ X d 200 32 [.ref a, v1, v2, v3] [.ref a, w0, w1] h Q := ex_nx (show mx_at 200 31 = some (.aload_n 0, 1) by decide +kernel) rfl
set_option maxRecDepth 20000 in
theorem i200_32 : ex_ X d 200 32 [v0, v1, v2, v3] [.ref a, w0, w1] h Q = (gk_ h a 21 [(12, 0)] = true ∧ ex_ X d 200 35 [v0, v1, v2, v3] [gv_ h a 21, w0, w1] h Q) := R_getf (show mx_at 200 32 = some (.getfield 44, 3) by decide +kernel) (mx_fdo ow200 fd120044)
set_option maxRecDepth 20000 in
theorem i200_35 : ex_ X d 200 35 [v0, .int x, v2, v3] [w0, w1, w2] h Q = ex_ X d 200 36 [v0, .int x, v2, v3] [.int x, w0, w1, w2] h Q := ex_nx (show mx_at 200 35 = some (.iload_n 1, 1) by decide +kernel) rfl
set_option maxRecDepth 20000 in
theorem i200_36 : ex_ X d 200 36 [v0, v1, v2, v3] [.int i, .ref a, w0, w1] h Q = (ik_ h a i = true ∧ ex_ X d 200 37 [v0, v1, v2, v3] [.int (ia_ h a i), w0, w1] h Q) := R_iald (show mx_at 200 36 = some (.iaload, 1) by decide +kernel)
set_option maxRecDepth 20000 in
theorem i200_37 : ex_ X d 200 37 [v0, v1, v2, v3] [w0, w1, w2] h Q = ex_ X d 200 38 [v0, v1, v2, v3] [.int 1, w0, w1, w2] h Q := R_iconst (show mx_at 200 37 = some (.iconst 1, 1) by decide +kernel) (by decide)
set_option maxRecDepth 20000 in
theorem i200_38 : ex_ X d 200 38 [v0, v1, v2, v3] [.int y, .int x, w0, w1] h Q = ex_ X d 200 39 [v0, v1, v2, v3] [.int (x - y), w0, w1] h Q := ex_nx (show mx_at 200 38 = some (.isub, 1) by decide +kernel) rfl
set_option maxRecDepth 20000 in
theorem i200_39 : ex_ X d 200 39 [v0, v1, v2, v3] [.int x, w0, w1] h Q = ex_ X d 200 40 [v0, v1, v2, v3] [.long x.toInt64, w0, w1] h Q := ex_nx (show mx_at 200 39 = some (.i2l, 1) by decide +kernel) rfl
set_option maxRecDepth 20000 in
theorem i200_40 : ex_ X (d + 1) 200 40 [v0, v1, v2, v3] [.long j2, .long j1, .long j0] h Q = ev_ X d 124 [.long j0, .long j1, .long j2] h (fun r h' => ex_ X (d + 1) 200 43 [v0, v1, v2, v3] (r.toList ++ []) h' Q) := R_stat (show mx_at 200 40 = some (.invokestatic 54, 3) by decide +kernel) (mx_clk ow200 cc12_54) (Nat.le_of_ble_eq_true rfl) rfl rfl (Nat.le_of_ble_eq_true rfl) ml124 (Nat.le_of_ble_eq_true rfl)
set_option maxRecDepth 20000 in
theorem i200_43 : ex_ X d 200 43 [v0, v1, v2, v3] [.int x] h Q = if ¬ x = 0 then ex_ X d 200 52 [v0, v1, v2, v3] [] h Q else ex_ X d 200 46 [v0, v1, v2, v3] [] h Q := (R_br (show mx_at 200 43 = some (.ifCond .ne 9, 3) by decide +kernel) rfl rfl).trans mx_ite
set_option maxRecDepth 20000 in
theorem i200_46 : ex_ X d 200 46 [.ref a, v1, v2, v3] [] h Q = ex_ X d 200 47 [.ref a, v1, v2, v3] [.ref a] h Q := ex_nx (show mx_at 200 46 = some (.aload_n 0, 1) by decide +kernel) rfl
set_option maxRecDepth 20000 in
theorem i200_47 : ex_ X d 200 47 [v0, v1, v2, v3] [w0] h Q = ex_ X d 200 48 [v0, v1, v2, v3] [.int 1, w0] h Q := R_iconst (show mx_at 200 47 = some (.iconst 1, 1) by decide +kernel) (by decide)
set_option maxRecDepth 20000 in
theorem i200_48 (hc : co_ h a = some 12) : ex_ X (d + 1) 200 48 [v0, v1, v2, v3] [.int x0, .ref a] h Q = ev_ X d 123 [.ref a, .int x0] h (fun r h' => ex_ X (d + 1) 200 51 [v0, v1, v2, v3] (r.toList ++ []) h' Q) := R_vir (show mx_at 200 48 = some (.invokevirtual 131, 3) by decide +kernel) (mx_clk ow200 cc12_131) (Nat.le_of_ble_eq_true rfl) rfl rfl hc rfl (Nat.le_of_ble_eq_true rfl) (Nat.le_of_ble_eq_true rfl) (by rw [ml123]; exact Nat.le_of_ble_eq_true rfl)
set_option maxRecDepth 20000 in
theorem i200_51 : ex_ X d 200 51 [v0, v1, v2, v3] [.int x] h Q = Q (some (.int x)) h := ex_ret (show mx_at 200 51 = some (.ireturn, 1) by decide +kernel) (mx_retI rt200)
set_option maxRecDepth 20000 in
theorem i200_52 : ex_ X d 200 52 [.ref a, v1, v2, v3] [] h Q = ex_ X d 200 53 [.ref a, v1, v2, v3] [.ref a] h Q := ex_nx (show mx_at 200 52 = some (.aload_n 0, 1) by decide +kernel) rfl
set_option maxRecDepth 20000 in
theorem i200_53 : ex_ X d 200 53 [v0, v1, v2, v3] [.ref a] h Q = (gk_ h a 22 [(12, 0)] = true ∧ ex_ X d 200 56 [v0, v1, v2, v3] [gv_ h a 22] h Q) := R_getf (show mx_at 200 53 = some (.getfield 47, 3) by decide +kernel) (mx_fdo ow200 fd120047)
set_option maxRecDepth 20000 in
theorem i200_56 : ex_ X d 200 56 [v0, v1, v2, v3] [w0] h Q = ex_ X d 200 58 [v0, v1, v2, v3] [.int 40, w0] h Q := R_bipush (show mx_at 200 56 = some (.bipush 40, 2) by decide +kernel) (by decide)
set_option maxRecDepth 20000 in
theorem i200_58 : ex_ X d 200 58 [v0, .int x, v2, v3] [w0, w1] h Q = ex_ X d 200 59 [v0, .int x, v2, v3] [.int x, w0, w1] h Q := ex_nx (show mx_at 200 58 = some (.iload_n 1, 1) by decide +kernel) rfl
set_option maxRecDepth 20000 in
theorem i200_59 : ex_ X d 200 59 [v0, v1, v2, v3] [.int y, .int x, w0] h Q = ex_ X d 200 60 [v0, v1, v2, v3] [.int (x * y), w0] h Q := ex_nx (show mx_at 200 59 = some (.imul, 1) by decide +kernel) rfl
set_option maxRecDepth 20000 in
theorem i200_60 : ex_ X d 200 60 [v0, v1, .int x, v3] [w0, w1] h Q = ex_ X d 200 61 [v0, v1, .int x, v3] [.int x, w0, w1] h Q := ex_nx (show mx_at 200 60 = some (.iload_n 2, 1) by decide +kernel) rfl
set_option maxRecDepth 20000 in
theorem i200_61 : ex_ X d 200 61 [v0, v1, v2, v3] [.int y, .int x, w0] h Q = ex_ X d 200 62 [v0, v1, v2, v3] [.int (x + y), w0] h Q := ex_nx (show mx_at 200 61 = some (.iadd, 1) by decide +kernel) rfl
set_option maxRecDepth 20000 in
theorem i200_62 : ex_ X d 200 62 [.ref a, v1, v2, v3] [w0, w1] h Q = ex_ X d 200 63 [.ref a, v1, v2, v3] [.ref a, w0, w1] h Q := ex_nx (show mx_at 200 62 = some (.aload_n 0, 1) by decide +kernel) rfl
set_option maxRecDepth 20000 in
theorem i200_63 : ex_ X d 200 63 [v0, v1, v2, v3] [.ref a, w0, w1] h Q = (gk_ h a 20 [(12, 0)] = true ∧ ex_ X d 200 66 [v0, v1, v2, v3] [gv_ h a 20, w0, w1] h Q) := R_getf (show mx_at 200 63 = some (.getfield 41, 3) by decide +kernel) (mx_fdo ow200 fd120041)
set_option maxRecDepth 20000 in
theorem i200_66 : ex_ X d 200 66 [v0, .int x, v2, v3] [w0, w1, w2] h Q = ex_ X d 200 67 [v0, .int x, v2, v3] [.int x, w0, w1, w2] h Q := ex_nx (show mx_at 200 66 = some (.iload_n 1, 1) by decide +kernel) rfl
set_option maxRecDepth 20000 in
theorem i200_67 : ex_ X d 200 67 [v0, v1, v2, v3] [.int i, .ref a, w0, w1] h Q = (ik_ h a i = true ∧ ex_ X d 200 68 [v0, v1, v2, v3] [.int (ia_ h a i), w0, w1] h Q) := R_iald (show mx_at 200 67 = some (.iaload, 1) by decide +kernel)
set_option maxRecDepth 20000 in
theorem i200_68 : ex_ X d 200 68 [v0, v1, v2, v3] [w0, w1, w2] h Q = ex_ X d 200 70 [v0, v1, v2, v3] [.int 8, w0, w1, w2] h Q := R_bipush (show mx_at 200 68 = some (.bipush 8, 2) by decide +kernel) (by decide)
set_option maxRecDepth 20000 in
theorem i200_70 : ex_ X d 200 70 [v0, v1, v2, v3] [.int y, .int x, w0, w1] h Q = if ¬ x = y then ex_ X d 200 78 [v0, v1, v2, v3] [w0, w1] h Q else ex_ X d 200 73 [v0, v1, v2, v3] [w0, w1] h Q := (R_br (show mx_at 200 70 = some (.if_icmp .ne 8, 3) by decide +kernel) rfl rfl).trans mx_ite
set_option maxRecDepth 20000 in
theorem i200_73 : ex_ X d 200 73 [v0, v1, v2, .int x] [w0, w1] h Q = ex_ X d 200 74 [v0, v1, v2, .int x] [.int x, w0, w1] h Q := ex_nx (show mx_at 200 73 = some (.iload_n 3, 1) by decide +kernel) rfl
set_option maxRecDepth 20000 in
theorem i200_74 : ex_ X d 200 74 [v0, v1, v2, v3] [.int x, w0, w1] h Q = ex_ X d 200 75 [v0, v1, v2, v3] [.int (x.toInt8.toInt32), w0, w1] h Q := ex_nx (show mx_at 200 74 = some (.i2b, 1) by decide +kernel) rfl
set_option maxRecDepth 20000 in
theorem i200_75 : ex_ X d 200 75 [v0, v1, v2, v3] [w0, w1, w2] h Q = ex_ X d 200 95 [v0, v1, v2, v3] [w0, w1, w2] h Q := R_to (show mx_at 200 75 = some (.goto 20, 3) by decide +kernel) rfl rfl
set_option maxRecDepth 20000 in
theorem i200_78 : ex_ X d 200 78 [.ref a, v1, v2, v3] [w0, w1] h Q = ex_ X d 200 79 [.ref a, v1, v2, v3] [.ref a, w0, w1] h Q := ex_nx (show mx_at 200 78 = some (.aload_n 0, 1) by decide +kernel) rfl
set_option maxRecDepth 20000 in
theorem i200_79 : ex_ X d 200 79 [v0, v1, v2, v3] [.ref a, w0, w1] h Q = (gk_ h a 20 [(12, 0)] = true ∧ ex_ X d 200 82 [v0, v1, v2, v3] [gv_ h a 20, w0, w1] h Q) := R_getf (show mx_at 200 79 = some (.getfield 41, 3) by decide +kernel) (mx_fdo ow200 fd120041)
set_option maxRecDepth 20000 in
theorem i200_82 : ex_ X d 200 82 [v0, .int x, v2, v3] [w0, w1, w2] h Q = ex_ X d 200 83 [v0, .int x, v2, v3] [.int x, w0, w1, w2] h Q := ex_nx (show mx_at 200 82 = some (.iload_n 1, 1) by decide +kernel) rfl
set_option maxRecDepth 20000 in
theorem i200_83 : ex_ X d 200 83 [v0, v1, v2, v3] [.int i, .ref a, w0, w1] h Q = (ik_ h a i = true ∧ ex_ X d 200 84 [v0, v1, v2, v3] [.int (ia_ h a i), w0, w1] h Q) := R_iald (show mx_at 200 83 = some (.iaload, 1) by decide +kernel)
set_option maxRecDepth 20000 in
theorem i200_84 : ex_ X d 200 84 [v0, v1, v2, v3] [w0, w1, w2] h Q = ex_ X d 200 86 [v0, v1, v2, v3] [.int 16, w0, w1, w2] h Q := R_bipush (show mx_at 200 84 = some (.bipush 16, 2) by decide +kernel) (by decide)
set_option maxRecDepth 20000 in
theorem i200_86 : ex_ X d 200 86 [v0, v1, v2, v3] [.int y, .int x, w0, w1] h Q = if ¬ x = y then ex_ X d 200 94 [v0, v1, v2, v3] [w0, w1] h Q else ex_ X d 200 89 [v0, v1, v2, v3] [w0, w1] h Q := (R_br (show mx_at 200 86 = some (.if_icmp .ne 8, 3) by decide +kernel) rfl rfl).trans mx_ite
set_option maxRecDepth 20000 in
theorem i200_89 : ex_ X d 200 89 [v0, v1, v2, .int x] [w0, w1] h Q = ex_ X d 200 90 [v0, v1, v2, .int x] [.int x, w0, w1] h Q := ex_nx (show mx_at 200 89 = some (.iload_n 3, 1) by decide +kernel) rfl
set_option maxRecDepth 20000 in
theorem i200_90 : ex_ X d 200 90 [v0, v1, v2, v3] [.int x, w0, w1] h Q = ex_ X d 200 91 [v0, v1, v2, v3] [.int (x.toInt16.toInt32), w0, w1] h Q := ex_nx (show mx_at 200 90 = some (.i2s, 1) by decide +kernel) rfl
set_option maxRecDepth 20000 in
theorem i200_91 : ex_ X d 200 91 [v0, v1, v2, v3] [w0, w1, w2] h Q = ex_ X d 200 95 [v0, v1, v2, v3] [w0, w1, w2] h Q := R_to (show mx_at 200 91 = some (.goto 4, 3) by decide +kernel) rfl rfl
set_option maxRecDepth 20000 in
theorem i200_94 : ex_ X d 200 94 [v0, v1, v2, .int x] [w0, w1] h Q = ex_ X d 200 95 [v0, v1, v2, .int x] [.int x, w0, w1] h Q := ex_nx (show mx_at 200 94 = some (.iload_n 3, 1) by decide +kernel) rfl
set_option maxRecDepth 20000 in
theorem i200_95 : ex_ X d 200 95 [v0, v1, v2, v3] [.int x, .int i, .ref a] h Q = (ik_ h a i = true ∧ ex_ X d 200 96 [v0, v1, v2, v3] [] (is_ h a i x) Q) := R_iast (show mx_at 200 95 = some (.iastore, 1) by decide +kernel)
set_option maxRecDepth 20000 in
theorem i200_96 : ex_ X d 200 96 [v0, v1, v2, v3] [] h Q = ex_ X d 200 97 [v0, v1, v2, v3] [.int 1] h Q := R_iconst (show mx_at 200 96 = some (.iconst 1, 1) by decide +kernel) (by decide)
set_option maxRecDepth 20000 in
theorem i200_97 : ex_ X d 200 97 [v0, v1, v2, v3] [.int x] h Q = Q (some (.int x)) h := ex_ret (show mx_at 200 97 = some (.ireturn, 1) by decide +kernel) (mx_retI rt200)
theorem i200_e : ev_ X d 200 [.ref a, .int x0, .int x1, .int x2] h Q = ex_ X d 200 0 [.ref a, .int x0, .int x1, .int x2] [] h Q := by rw [ev_, ml200]; rfl
-- 201 X12_move
set_option maxRecDepth 20000 in
theorem i201_0 : ex_ X d 201 0 [v0, .int x, v2, v3, v4, v5, v6] [] h Q = ex_ X d 201 1 [v0, .int x, v2, v3, v4, v5, v6] [.int x] h Q := ex_nx (show mx_at 201 0 = some (.iload_n 1, 1) by decide +kernel) rfl
set_option maxRecDepth 20000 in
theorem i201_1 : ex_ X (d + 1) 201 1 [v0, v1, v2, v3, v4, v5, v6] [.int x0] h Q = ev_ X d 198 [.int x0] h (fun r h' => ex_ X (d + 1) 201 4 [v0, v1, v2, v3, v4, v5, v6] (r.toList ++ []) h' Q) := R_stat (show mx_at 201 1 = some (.invokestatic 213, 3) by decide +kernel) (mx_clk ow201 cc12_213) (Nat.le_of_ble_eq_true rfl) rfl rfl (Nat.le_of_ble_eq_true rfl) ml198 (Nat.le_of_ble_eq_true rfl)
set_option maxRecDepth 20000 in
theorem i201_4 : ex_ X d 201 4 [v0, v1, v2, v3, v4, v5, v6] [.int x] h Q = if x = 0 then ex_ X d 201 14 [v0, v1, v2, v3, v4, v5, v6] [] h Q else ex_ X d 201 7 [v0, v1, v2, v3, v4, v5, v6] [] h Q := (R_br (show mx_at 201 4 = some (.ifCond .eq 10, 3) by decide +kernel) rfl rfl).trans mx_ite
set_option maxRecDepth 20000 in
theorem i201_7 : ex_ X d 201 7 [v0, v1, v2, .int x, v4, v5, v6] [] h Q = ex_ X d 201 8 [v0, v1, v2, .int x, v4, v5, v6] [.int x] h Q := ex_nx (show mx_at 201 7 = some (.iload_n 3, 1) by decide +kernel) rfl
set_option maxRecDepth 20000 in
theorem i201_8 : ex_ X (d + 1) 201 8 [v0, v1, v2, v3, v4, v5, v6] [.int x0] h Q = ev_ X d 198 [.int x0] h (fun r h' => ex_ X (d + 1) 201 11 [v0, v1, v2, v3, v4, v5, v6] (r.toList ++ []) h' Q) := R_stat (show mx_at 201 8 = some (.invokestatic 213, 3) by decide +kernel) (mx_clk ow201 cc12_213) (Nat.le_of_ble_eq_true rfl) rfl rfl (Nat.le_of_ble_eq_true rfl) ml198 (Nat.le_of_ble_eq_true rfl)
set_option maxRecDepth 20000 in
theorem i201_11 : ex_ X d 201 11 [v0, v1, v2, v3, v4, v5, v6] [.int x] h Q = if ¬ x = 0 then ex_ X d 201 20 [v0, v1, v2, v3, v4, v5, v6] [] h Q else ex_ X d 201 14 [v0, v1, v2, v3, v4, v5, v6] [] h Q := (R_br (show mx_at 201 11 = some (.ifCond .ne 9, 3) by decide +kernel) rfl rfl).trans mx_ite
set_option maxRecDepth 20000 in
theorem i201_14 : ex_ X d 201 14 [.ref a, v1, v2, v3, v4, v5, v6] [] h Q = ex_ X d 201 15 [.ref a, v1, v2, v3, v4, v5, v6] [.ref a] h Q := ex_nx (show mx_at 201 14 = some (.aload_n 0, 1) by decide +kernel) rfl
set_option maxRecDepth 20000 in
theorem i201_15 : ex_ X d 201 15 [v0, v1, v2, v3, v4, v5, v6] [w0] h Q = ex_ X d 201 16 [v0, v1, v2, v3, v4, v5, v6] [.int 1, w0] h Q := R_iconst (show mx_at 201 15 = some (.iconst 1, 1) by decide +kernel) (by decide)
set_option maxRecDepth 20000 in
theorem i201_16 (hc : co_ h a = some 12) : ex_ X (d + 1) 201 16 [v0, v1, v2, v3, v4, v5, v6] [.int x0, .ref a] h Q = ev_ X d 123 [.ref a, .int x0] h (fun r h' => ex_ X (d + 1) 201 19 [v0, v1, v2, v3, v4, v5, v6] (r.toList ++ []) h' Q) := R_vir (show mx_at 201 16 = some (.invokevirtual 131, 3) by decide +kernel) (mx_clk ow201 cc12_131) (Nat.le_of_ble_eq_true rfl) rfl rfl hc rfl (Nat.le_of_ble_eq_true rfl) (Nat.le_of_ble_eq_true rfl) (by rw [ml123]; exact Nat.le_of_ble_eq_true rfl)
set_option maxRecDepth 20000 in
theorem i201_19 : ex_ X d 201 19 [v0, v1, v2, v3, v4, v5, v6] [.int x] h Q = Q (some (.int x)) h := ex_ret (show mx_at 201 19 = some (.ireturn, 1) by decide +kernel) (mx_retI rt201)
set_option maxRecDepth 20000 in
theorem i201_20 : ex_ X d 201 20 [.ref a, v1, v2, v3, v4, v5, v6] [] h Q = ex_ X d 201 21 [.ref a, v1, v2, v3, v4, v5, v6] [.ref a] h Q := ex_nx (show mx_at 201 20 = some (.aload_n 0, 1) by decide +kernel) rfl
set_option maxRecDepth 20000 in
theorem i201_21 : ex_ X d 201 21 [v0, v1, v2, v3, v4, v5, v6] [.ref a] h Q = (gk_ h a 20 [(12, 0)] = true ∧ ex_ X d 201 24 [v0, v1, v2, v3, v4, v5, v6] [gv_ h a 20] h Q) := R_getf (show mx_at 201 21 = some (.getfield 41, 3) by decide +kernel) (mx_fdo ow201 fd120041)
set_option maxRecDepth 20000 in
theorem i201_24 : ex_ X d 201 24 [v0, .int x, v2, v3, v4, v5, v6] [w0] h Q = ex_ X d 201 25 [v0, .int x, v2, v3, v4, v5, v6] [.int x, w0] h Q := ex_nx (show mx_at 201 24 = some (.iload_n 1, 1) by decide +kernel) rfl
set_option maxRecDepth 20000 in
theorem i201_25 : ex_ X d 201 25 [v0, v1, v2, v3, v4, v5, v6] [.int i, .ref a] h Q = (ik_ h a i = true ∧ ex_ X d 201 26 [v0, v1, v2, v3, v4, v5, v6] [.int (ia_ h a i)] h Q) := R_iald (show mx_at 201 25 = some (.iaload, 1) by decide +kernel)
set_option maxRecDepth 20000 in
theorem i201_26 : ex_ X d 201 26 [v0, v1, v2, v3, v4, v5, v6] [.int x] h Q = if x = 0 then ex_ X d 201 38 [v0, v1, v2, v3, v4, v5, v6] [] h Q else ex_ X d 201 29 [v0, v1, v2, v3, v4, v5, v6] [] h Q := (R_br (show mx_at 201 26 = some (.ifCond .eq 12, 3) by decide +kernel) rfl rfl).trans mx_ite
set_option maxRecDepth 20000 in
theorem i201_29 : ex_ X d 201 29 [.ref a, v1, v2, v3, v4, v5, v6] [] h Q = ex_ X d 201 30 [.ref a, v1, v2, v3, v4, v5, v6] [.ref a] h Q := ex_nx (show mx_at 201 29 = some (.aload_n 0, 1) by decide +kernel) rfl
set_option maxRecDepth 20000 in
theorem i201_30 : ex_ X d 201 30 [v0, v1, v2, v3, v4, v5, v6] [.ref a] h Q = (gk_ h a 20 [(12, 0)] = true ∧ ex_ X d 201 33 [v0, v1, v2, v3, v4, v5, v6] [gv_ h a 20] h Q) := R_getf (show mx_at 201 30 = some (.getfield 41, 3) by decide +kernel) (mx_fdo ow201 fd120041)
set_option maxRecDepth 20000 in
theorem i201_33 : ex_ X d 201 33 [v0, v1, v2, .int x, v4, v5, v6] [w0] h Q = ex_ X d 201 34 [v0, v1, v2, .int x, v4, v5, v6] [.int x, w0] h Q := ex_nx (show mx_at 201 33 = some (.iload_n 3, 1) by decide +kernel) rfl
set_option maxRecDepth 20000 in
theorem i201_34 : ex_ X d 201 34 [v0, v1, v2, v3, v4, v5, v6] [.int i, .ref a] h Q = (ik_ h a i = true ∧ ex_ X d 201 35 [v0, v1, v2, v3, v4, v5, v6] [.int (ia_ h a i)] h Q) := R_iald (show mx_at 201 34 = some (.iaload, 1) by decide +kernel)
set_option maxRecDepth 20000 in
theorem i201_35 : ex_ X d 201 35 [v0, v1, v2, v3, v4, v5, v6] [.int x] h Q = if ¬ x = 0 then ex_ X d 201 44 [v0, v1, v2, v3, v4, v5, v6] [] h Q else ex_ X d 201 38 [v0, v1, v2, v3, v4, v5, v6] [] h Q := (R_br (show mx_at 201 35 = some (.ifCond .ne 9, 3) by decide +kernel) rfl rfl).trans mx_ite
set_option maxRecDepth 20000 in
theorem i201_38 : ex_ X d 201 38 [.ref a, v1, v2, v3, v4, v5, v6] [] h Q = ex_ X d 201 39 [.ref a, v1, v2, v3, v4, v5, v6] [.ref a] h Q := ex_nx (show mx_at 201 38 = some (.aload_n 0, 1) by decide +kernel) rfl
set_option maxRecDepth 20000 in
theorem i201_39 : ex_ X d 201 39 [v0, v1, v2, v3, v4, v5, v6] [w0] h Q = ex_ X d 201 40 [v0, v1, v2, v3, v4, v5, v6] [.int 2, w0] h Q := R_iconst (show mx_at 201 39 = some (.iconst 2, 1) by decide +kernel) (by decide)
set_option maxRecDepth 20000 in
theorem i201_40 (hc : co_ h a = some 12) : ex_ X (d + 1) 201 40 [v0, v1, v2, v3, v4, v5, v6] [.int x0, .ref a] h Q = ev_ X d 123 [.ref a, .int x0] h (fun r h' => ex_ X (d + 1) 201 43 [v0, v1, v2, v3, v4, v5, v6] (r.toList ++ []) h' Q) := R_vir (show mx_at 201 40 = some (.invokevirtual 131, 3) by decide +kernel) (mx_clk ow201 cc12_131) (Nat.le_of_ble_eq_true rfl) rfl rfl hc rfl (Nat.le_of_ble_eq_true rfl) (Nat.le_of_ble_eq_true rfl) (by rw [ml123]; exact Nat.le_of_ble_eq_true rfl)
set_option maxRecDepth 20000 in
theorem i201_43 : ex_ X d 201 43 [v0, v1, v2, v3, v4, v5, v6] [.int x] h Q = Q (some (.int x)) h := ex_ret (show mx_at 201 43 = some (.ireturn, 1) by decide +kernel) (mx_retI rt201)
set_option maxRecDepth 20000 in
theorem i201_44 : ex_ X d 201 44 [.ref a, v1, v2, v3, v4, v5, v6] [] h Q = ex_ X d 201 45 [.ref a, v1, v2, v3, v4, v5, v6] [.ref a] h Q := ex_nx (show mx_at 201 44 = some (.aload_n 0, 1) by decide +kernel) rfl
set_option maxRecDepth 20000 in
theorem i201_45 : ex_ X d 201 45 [v0, v1, v2, v3, v4, v5, v6] [.ref a] h Q = (gk_ h a 20 [(12, 0)] = true ∧ ex_ X d 201 48 [v0, v1, v2, v3, v4, v5, v6] [gv_ h a 20] h Q) := R_getf (show mx_at 201 45 = some (.getfield 41, 3) by decide +kernel) (mx_fdo ow201 fd120041)
set_option maxRecDepth 20000 in
theorem i201_48 : ex_ X d 201 48 [v0, .int x, v2, v3, v4, v5, v6] [w0] h Q = ex_ X d 201 49 [v0, .int x, v2, v3, v4, v5, v6] [.int x, w0] h Q := ex_nx (show mx_at 201 48 = some (.iload_n 1, 1) by decide +kernel) rfl
set_option maxRecDepth 20000 in
theorem i201_49 : ex_ X d 201 49 [v0, v1, v2, v3, v4, v5, v6] [.int i, .ref a] h Q = (ik_ h a i = true ∧ ex_ X d 201 50 [v0, v1, v2, v3, v4, v5, v6] [.int (ia_ h a i)] h Q) := R_iald (show mx_at 201 49 = some (.iaload, 1) by decide +kernel)
set_option maxRecDepth 20000 in
theorem i201_50 : ex_ X d 201 50 [.ref a, v1, v2, v3, v4, v5, v6] [w0] h Q = ex_ X d 201 51 [.ref a, v1, v2, v3, v4, v5, v6] [.ref a, w0] h Q := ex_nx (show mx_at 201 50 = some (.aload_n 0, 1) by decide +kernel) rfl
set_option maxRecDepth 20000 in
theorem i201_51 : ex_ X d 201 51 [v0, v1, v2, v3, v4, v5, v6] [.ref a, w0] h Q = (gk_ h a 20 [(12, 0)] = true ∧ ex_ X d 201 54 [v0, v1, v2, v3, v4, v5, v6] [gv_ h a 20, w0] h Q) := R_getf (show mx_at 201 51 = some (.getfield 41, 3) by decide +kernel) (mx_fdo ow201 fd120041)
set_option maxRecDepth 20000 in
theorem i201_54 : ex_ X d 201 54 [v0, v1, v2, .int x, v4, v5, v6] [w0, w1] h Q = ex_ X d 201 55 [v0, v1, v2, .int x, v4, v5, v6] [.int x, w0, w1] h Q := ex_nx (show mx_at 201 54 = some (.iload_n 3, 1) by decide +kernel) rfl
set_option maxRecDepth 20000 in
theorem i201_55 : ex_ X d 201 55 [v0, v1, v2, v3, v4, v5, v6] [.int i, .ref a, w0] h Q = (ik_ h a i = true ∧ ex_ X d 201 56 [v0, v1, v2, v3, v4, v5, v6] [.int (ia_ h a i), w0] h Q) := R_iald (show mx_at 201 55 = some (.iaload, 1) by decide +kernel)
set_option maxRecDepth 20000 in
theorem i201_56 : ex_ X d 201 56 [v0, v1, v2, v3, v4, v5, v6] [.int y, .int x] h Q = if x = y then ex_ X d 201 65 [v0, v1, v2, v3, v4, v5, v6] [] h Q else ex_ X d 201 59 [v0, v1, v2, v3, v4, v5, v6] [] h Q := (R_br (show mx_at 201 56 = some (.if_icmp .eq 9, 3) by decide +kernel) rfl rfl).trans mx_ite
set_option maxRecDepth 20000 in
theorem i201_59 : ex_ X d 201 59 [.ref a, v1, v2, v3, v4, v5, v6] [] h Q = ex_ X d 201 60 [.ref a, v1, v2, v3, v4, v5, v6] [.ref a] h Q := ex_nx (show mx_at 201 59 = some (.aload_n 0, 1) by decide +kernel) rfl
set_option maxRecDepth 20000 in
theorem i201_60 : ex_ X d 201 60 [v0, v1, v2, v3, v4, v5, v6] [w0] h Q = ex_ X d 201 61 [v0, v1, v2, v3, v4, v5, v6] [.int 5, w0] h Q := R_iconst (show mx_at 201 60 = some (.iconst 5, 1) by decide +kernel) (by decide)
set_option maxRecDepth 20000 in
theorem i201_61 (hc : co_ h a = some 12) : ex_ X (d + 1) 201 61 [v0, v1, v2, v3, v4, v5, v6] [.int x0, .ref a] h Q = ev_ X d 123 [.ref a, .int x0] h (fun r h' => ex_ X (d + 1) 201 64 [v0, v1, v2, v3, v4, v5, v6] (r.toList ++ []) h' Q) := R_vir (show mx_at 201 61 = some (.invokevirtual 131, 3) by decide +kernel) (mx_clk ow201 cc12_131) (Nat.le_of_ble_eq_true rfl) rfl rfl hc rfl (Nat.le_of_ble_eq_true rfl) (Nat.le_of_ble_eq_true rfl) (by rw [ml123]; exact Nat.le_of_ble_eq_true rfl)
set_option maxRecDepth 20000 in
theorem i201_64 : ex_ X d 201 64 [v0, v1, v2, v3, v4, v5, v6] [.int x] h Q = Q (some (.int x)) h := ex_ret (show mx_at 201 64 = some (.ireturn, 1) by decide +kernel) (mx_retI rt201)
set_option maxRecDepth 20000 in
theorem i201_65 : ex_ X d 201 65 [v0, v1, v2, v3, v4, .int x, v6] [] h Q = ex_ X d 201 67 [v0, v1, v2, v3, v4, .int x, v6] [.int x] h Q := ex_nx (show mx_at 201 65 = some (.iload 5, 2) by decide +kernel) rfl
set_option maxRecDepth 20000 in
theorem i201_67 : ex_ X d 201 67 [v0, v1, v2, v3, v4, v5, v6] [.int x] h Q = if x < 0 then ex_ X d 201 106 [v0, v1, v2, v3, v4, v5, v6] [] h Q else ex_ X d 201 70 [v0, v1, v2, v3, v4, v5, v6] [] h Q := (R_br (show mx_at 201 67 = some (.ifCond .lt 39, 3) by decide +kernel) rfl rfl).trans mx_ite
set_option maxRecDepth 20000 in
theorem i201_70 : ex_ X d 201 70 [v0, v1, .int x, v3, v4, v5, v6] [] h Q = ex_ X d 201 71 [v0, v1, .int x, v3, v4, v5, v6] [.int x] h Q := ex_nx (show mx_at 201 70 = some (.iload_n 2, 1) by decide +kernel) rfl
set_option maxRecDepth 20000 in
theorem i201_71 : ex_ X d 201 71 [v0, v1, v2, v3, v4, v5, v6] [.int x] h Q = if x < 0 then ex_ X d 201 106 [v0, v1, v2, v3, v4, v5, v6] [] h Q else ex_ X d 201 74 [v0, v1, v2, v3, v4, v5, v6] [] h Q := (R_br (show mx_at 201 71 = some (.ifCond .lt 35, 3) by decide +kernel) rfl rfl).trans mx_ite
set_option maxRecDepth 20000 in
theorem i201_74 : ex_ X d 201 74 [v0, v1, v2, v3, .int x, v5, v6] [] h Q = ex_ X d 201 76 [v0, v1, v2, v3, .int x, v5, v6] [.int x] h Q := ex_nx (show mx_at 201 74 = some (.iload 4, 2) by decide +kernel) rfl
set_option maxRecDepth 20000 in
theorem i201_76 : ex_ X d 201 76 [v0, v1, v2, v3, v4, v5, v6] [.int x] h Q = if x < 0 then ex_ X d 201 106 [v0, v1, v2, v3, v4, v5, v6] [] h Q else ex_ X d 201 79 [v0, v1, v2, v3, v4, v5, v6] [] h Q := (R_br (show mx_at 201 76 = some (.ifCond .lt 30, 3) by decide +kernel) rfl rfl).trans mx_ite
set_option maxRecDepth 20000 in
theorem i201_79 : ex_ X d 201 79 [v0, v1, v2, v3, v4, .int x, v6] [] h Q = ex_ X d 201 81 [v0, v1, v2, v3, v4, .int x, v6] [.int x] h Q := ex_nx (show mx_at 201 79 = some (.iload 5, 2) by decide +kernel) rfl
set_option maxRecDepth 20000 in
theorem i201_81 : ex_ X d 201 81 [.ref a, v1, v2, v3, v4, v5, v6] [w0] h Q = ex_ X d 201 82 [.ref a, v1, v2, v3, v4, v5, v6] [.ref a, w0] h Q := ex_nx (show mx_at 201 81 = some (.aload_n 0, 1) by decide +kernel) rfl
set_option maxRecDepth 20000 in
theorem i201_82 : ex_ X d 201 82 [v0, v1, v2, v3, v4, v5, v6] [.ref a, w0] h Q = (gk_ h a 21 [(12, 0)] = true ∧ ex_ X d 201 85 [v0, v1, v2, v3, v4, v5, v6] [gv_ h a 21, w0] h Q) := R_getf (show mx_at 201 82 = some (.getfield 44, 3) by decide +kernel) (mx_fdo ow201 fd120044)
set_option maxRecDepth 20000 in
theorem i201_85 : ex_ X d 201 85 [v0, .int x, v2, v3, v4, v5, v6] [w0, w1] h Q = ex_ X d 201 86 [v0, .int x, v2, v3, v4, v5, v6] [.int x, w0, w1] h Q := ex_nx (show mx_at 201 85 = some (.iload_n 1, 1) by decide +kernel) rfl
set_option maxRecDepth 20000 in
theorem i201_86 : ex_ X d 201 86 [v0, v1, v2, v3, v4, v5, v6] [.int i, .ref a, w0] h Q = (ik_ h a i = true ∧ ex_ X d 201 87 [v0, v1, v2, v3, v4, v5, v6] [.int (ia_ h a i), w0] h Q) := R_iald (show mx_at 201 86 = some (.iaload, 1) by decide +kernel)
set_option maxRecDepth 20000 in
theorem i201_87 : ex_ X d 201 87 [v0, v1, .int x, v3, v4, v5, v6] [w0, w1] h Q = ex_ X d 201 88 [v0, v1, .int x, v3, v4, v5, v6] [.int x, w0, w1] h Q := ex_nx (show mx_at 201 87 = some (.iload_n 2, 1) by decide +kernel) rfl
set_option maxRecDepth 20000 in
theorem i201_88 : ex_ X d 201 88 [v0, v1, v2, v3, v4, v5, v6] [.int y, .int x, w0] h Q = ex_ X d 201 89 [v0, v1, v2, v3, v4, v5, v6] [.int (x - y), w0] h Q := ex_nx (show mx_at 201 88 = some (.isub, 1) by decide +kernel) rfl
set_option maxRecDepth 20000 in
theorem i201_89 : ex_ X d 201 89 [v0, v1, v2, v3, v4, v5, v6] [.int y, .int x] h Q = if y < x then ex_ X d 201 106 [v0, v1, v2, v3, v4, v5, v6] [] h Q else ex_ X d 201 92 [v0, v1, v2, v3, v4, v5, v6] [] h Q := (R_br (show mx_at 201 89 = some (.if_icmp .gt 17, 3) by decide +kernel) rfl rfl).trans mx_ite
set_option maxRecDepth 20000 in
theorem i201_92 : ex_ X d 201 92 [v0, v1, v2, v3, v4, .int x, v6] [] h Q = ex_ X d 201 94 [v0, v1, v2, v3, v4, .int x, v6] [.int x] h Q := ex_nx (show mx_at 201 92 = some (.iload 5, 2) by decide +kernel) rfl
set_option maxRecDepth 20000 in
theorem i201_94 : ex_ X d 201 94 [.ref a, v1, v2, v3, v4, v5, v6] [w0] h Q = ex_ X d 201 95 [.ref a, v1, v2, v3, v4, v5, v6] [.ref a, w0] h Q := ex_nx (show mx_at 201 94 = some (.aload_n 0, 1) by decide +kernel) rfl
set_option maxRecDepth 20000 in
theorem i201_95 : ex_ X d 201 95 [v0, v1, v2, v3, v4, v5, v6] [.ref a, w0] h Q = (gk_ h a 21 [(12, 0)] = true ∧ ex_ X d 201 98 [v0, v1, v2, v3, v4, v5, v6] [gv_ h a 21, w0] h Q) := R_getf (show mx_at 201 95 = some (.getfield 44, 3) by decide +kernel) (mx_fdo ow201 fd120044)
set_option maxRecDepth 20000 in
theorem i201_98 : ex_ X d 201 98 [v0, v1, v2, .int x, v4, v5, v6] [w0, w1] h Q = ex_ X d 201 99 [v0, v1, v2, .int x, v4, v5, v6] [.int x, w0, w1] h Q := ex_nx (show mx_at 201 98 = some (.iload_n 3, 1) by decide +kernel) rfl
set_option maxRecDepth 20000 in
theorem i201_99 : ex_ X d 201 99 [v0, v1, v2, v3, v4, v5, v6] [.int i, .ref a, w0] h Q = (ik_ h a i = true ∧ ex_ X d 201 100 [v0, v1, v2, v3, v4, v5, v6] [.int (ia_ h a i), w0] h Q) := R_iald (show mx_at 201 99 = some (.iaload, 1) by decide +kernel)
set_option maxRecDepth 20000 in
theorem i201_100 : ex_ X d 201 100 [v0, v1, v2, v3, .int x, v5, v6] [w0, w1] h Q = ex_ X d 201 102 [v0, v1, v2, v3, .int x, v5, v6] [.int x, w0, w1] h Q := ex_nx (show mx_at 201 100 = some (.iload 4, 2) by decide +kernel) rfl
set_option maxRecDepth 20000 in
theorem i201_102 : ex_ X d 201 102 [v0, v1, v2, v3, v4, v5, v6] [.int y, .int x, w0] h Q = ex_ X d 201 103 [v0, v1, v2, v3, v4, v5, v6] [.int (x - y), w0] h Q := ex_nx (show mx_at 201 102 = some (.isub, 1) by decide +kernel) rfl
set_option maxRecDepth 20000 in
theorem i201_103 : ex_ X d 201 103 [v0, v1, v2, v3, v4, v5, v6] [.int y, .int x] h Q = if x ≤ y then ex_ X d 201 112 [v0, v1, v2, v3, v4, v5, v6] [] h Q else ex_ X d 201 106 [v0, v1, v2, v3, v4, v5, v6] [] h Q := (R_br (show mx_at 201 103 = some (.if_icmp .le 9, 3) by decide +kernel) rfl rfl).trans mx_ite
set_option maxRecDepth 20000 in
theorem i201_106 : ex_ X d 201 106 [.ref a, v1, v2, v3, v4, v5, v6] [] h Q = ex_ X d 201 107 [.ref a, v1, v2, v3, v4, v5, v6] [.ref a] h Q := ex_nx (show mx_at 201 106 = some (.aload_n 0, 1) by decide +kernel) rfl
set_option maxRecDepth 20000 in
theorem i201_107 : ex_ X d 201 107 [v0, v1, v2, v3, v4, v5, v6] [w0] h Q = ex_ X d 201 108 [v0, v1, v2, v3, v4, v5, v6] [.int 1, w0] h Q := R_iconst (show mx_at 201 107 = some (.iconst 1, 1) by decide +kernel) (by decide)
set_option maxRecDepth 20000 in
theorem i201_108 (hc : co_ h a = some 12) : ex_ X (d + 1) 201 108 [v0, v1, v2, v3, v4, v5, v6] [.int x0, .ref a] h Q = ev_ X d 123 [.ref a, .int x0] h (fun r h' => ex_ X (d + 1) 201 111 [v0, v1, v2, v3, v4, v5, v6] (r.toList ++ []) h' Q) := R_vir (show mx_at 201 108 = some (.invokevirtual 131, 3) by decide +kernel) (mx_clk ow201 cc12_131) (Nat.le_of_ble_eq_true rfl) rfl rfl hc rfl (Nat.le_of_ble_eq_true rfl) (Nat.le_of_ble_eq_true rfl) (by rw [ml123]; exact Nat.le_of_ble_eq_true rfl)
set_option maxRecDepth 20000 in
theorem i201_111 : ex_ X d 201 111 [v0, v1, v2, v3, v4, v5, v6] [.int x] h Q = Q (some (.int x)) h := ex_ret (show mx_at 201 111 = some (.ireturn, 1) by decide +kernel) (mx_retI rt201)
set_option maxRecDepth 20000 in
theorem i201_112 : ex_ X d 201 112 [v0, v1, v2, v3, v4, v5, v6] [] h Q = ex_ X d 201 113 [v0, v1, v2, v3, v4, v5, v6] [.int 0] h Q := R_iconst (show mx_at 201 112 = some (.iconst 0, 1) by decide +kernel) (by decide)
set_option maxRecDepth 20000 in
theorem i201_113 : ex_ X d 201 113 [v0, v1, v2, v3, v4, v5, v6] [.int x] h Q = (mx_nl v5 = true ∧ ex_ X d 201 115 [v0, v1, v2, v3, v4, v5, .int x] [] h Q) := mx_t1 (R_st (ok := mx_isI) (n := 6) (w := 2) (show mx_at 201 113 = some (.istore 6, 2) by decide +kernel) (fun _ _ => rfl) (Nat.le_of_ble_eq_true rfl)) rfl
set_option maxRecDepth 20000 in
theorem i201_115 : ex_ X d 201 115 [v0, v1, v2, v3, v4, v5, .int x] [] h Q = ex_ X d 201 117 [v0, v1, v2, v3, v4, v5, .int x] [.int x] h Q := ex_nx (show mx_at 201 115 = some (.iload 6, 2) by decide +kernel) rfl
set_option maxRecDepth 20000 in
theorem i201_117 : ex_ X d 201 117 [v0, v1, v2, v3, v4, .int x, v6] [w0] h Q = ex_ X d 201 119 [v0, v1, v2, v3, v4, .int x, v6] [.int x, w0] h Q := ex_nx (show mx_at 201 117 = some (.iload 5, 2) by decide +kernel) rfl
set_option maxRecDepth 20000 in
theorem i201_119 : ex_ X d 201 119 [v0, v1, v2, v3, v4, v5, v6] [.int y, .int x] h Q = if y ≤ x then ex_ X d 201 149 [v0, v1, v2, v3, v4, v5, v6] [] h Q else ex_ X d 201 122 [v0, v1, v2, v3, v4, v5, v6] [] h Q := (R_br (show mx_at 201 119 = some (.if_icmp .ge 30, 3) by decide +kernel) rfl rfl).trans mx_ite
set_option maxRecDepth 20000 in
theorem i201_122 : ex_ X d 201 122 [.ref a, v1, v2, v3, v4, v5, v6] [] h Q = ex_ X d 201 123 [.ref a, v1, v2, v3, v4, v5, v6] [.ref a] h Q := ex_nx (show mx_at 201 122 = some (.aload_n 0, 1) by decide +kernel) rfl
set_option maxRecDepth 20000 in
theorem i201_123 : ex_ X d 201 123 [v0, v1, v2, v3, v4, v5, v6] [.ref a] h Q = (gk_ h a 23 [(12, 0)] = true ∧ ex_ X d 201 126 [v0, v1, v2, v3, v4, v5, v6] [gv_ h a 23] h Q) := R_getf (show mx_at 201 123 = some (.getfield 50, 3) by decide +kernel) (mx_fdo ow201 fd120050)
set_option maxRecDepth 20000 in
theorem i201_126 : ex_ X d 201 126 [v0, v1, v2, v3, v4, v5, .int x] [w0] h Q = ex_ X d 201 128 [v0, v1, v2, v3, v4, v5, .int x] [.int x, w0] h Q := ex_nx (show mx_at 201 126 = some (.iload 6, 2) by decide +kernel) rfl
set_option maxRecDepth 20000 in
theorem i201_128 : ex_ X d 201 128 [.ref a, v1, v2, v3, v4, v5, v6] [w0, w1] h Q = ex_ X d 201 129 [.ref a, v1, v2, v3, v4, v5, v6] [.ref a, w0, w1] h Q := ex_nx (show mx_at 201 128 = some (.aload_n 0, 1) by decide +kernel) rfl
set_option maxRecDepth 20000 in
theorem i201_129 : ex_ X d 201 129 [v0, v1, v2, v3, v4, v5, v6] [.ref a, w0, w1] h Q = (gk_ h a 22 [(12, 0)] = true ∧ ex_ X d 201 132 [v0, v1, v2, v3, v4, v5, v6] [gv_ h a 22, w0, w1] h Q) := R_getf (show mx_at 201 129 = some (.getfield 47, 3) by decide +kernel) (mx_fdo ow201 fd120047)
set_option maxRecDepth 20000 in
theorem i201_132 : ex_ X d 201 132 [v0, v1, v2, v3, v4, v5, v6] [w0, w1, w2] h Q = ex_ X d 201 134 [v0, v1, v2, v3, v4, v5, v6] [.int 40, w0, w1, w2] h Q := R_bipush (show mx_at 201 132 = some (.bipush 40, 2) by decide +kernel) (by decide)
set_option maxRecDepth 20000 in
theorem i201_134 : ex_ X d 201 134 [v0, .int x, v2, v3, v4, v5, v6] [w0, w1, w2, w3] h Q = ex_ X d 201 135 [v0, .int x, v2, v3, v4, v5, v6] [.int x, w0, w1, w2, w3] h Q := ex_nx (show mx_at 201 134 = some (.iload_n 1, 1) by decide +kernel) rfl
set_option maxRecDepth 20000 in
theorem i201_135 : ex_ X d 201 135 [v0, v1, v2, v3, v4, v5, v6] [.int y, .int x, w0, w1, w2] h Q = ex_ X d 201 136 [v0, v1, v2, v3, v4, v5, v6] [.int (x * y), w0, w1, w2] h Q := ex_nx (show mx_at 201 135 = some (.imul, 1) by decide +kernel) rfl
set_option maxRecDepth 20000 in
theorem i201_136 : ex_ X d 201 136 [v0, v1, .int x, v3, v4, v5, v6] [w0, w1, w2, w3] h Q = ex_ X d 201 137 [v0, v1, .int x, v3, v4, v5, v6] [.int x, w0, w1, w2, w3] h Q := ex_nx (show mx_at 201 136 = some (.iload_n 2, 1) by decide +kernel) rfl
set_option maxRecDepth 20000 in
theorem i201_137 : ex_ X d 201 137 [v0, v1, v2, v3, v4, v5, v6] [.int y, .int x, w0, w1, w2] h Q = ex_ X d 201 138 [v0, v1, v2, v3, v4, v5, v6] [.int (x + y), w0, w1, w2] h Q := ex_nx (show mx_at 201 137 = some (.iadd, 1) by decide +kernel) rfl
set_option maxRecDepth 20000 in
theorem i201_138 : ex_ X d 201 138 [v0, v1, v2, v3, v4, v5, .int x] [w0, w1, w2, w3] h Q = ex_ X d 201 140 [v0, v1, v2, v3, v4, v5, .int x] [.int x, w0, w1, w2, w3] h Q := ex_nx (show mx_at 201 138 = some (.iload 6, 2) by decide +kernel) rfl
set_option maxRecDepth 20000 in
theorem i201_140 : ex_ X d 201 140 [v0, v1, v2, v3, v4, v5, v6] [.int y, .int x, w0, w1, w2] h Q = ex_ X d 201 141 [v0, v1, v2, v3, v4, v5, v6] [.int (x + y), w0, w1, w2] h Q := ex_nx (show mx_at 201 140 = some (.iadd, 1) by decide +kernel) rfl
set_option maxRecDepth 20000 in
theorem i201_141 : ex_ X d 201 141 [v0, v1, v2, v3, v4, v5, v6] [.int i, .ref a, w0, w1] h Q = (ik_ h a i = true ∧ ex_ X d 201 142 [v0, v1, v2, v3, v4, v5, v6] [.int (ia_ h a i), w0, w1] h Q) := R_iald (show mx_at 201 141 = some (.iaload, 1) by decide +kernel)
set_option maxRecDepth 20000 in
theorem i201_142 : ex_ X d 201 142 [v0, v1, v2, v3, v4, v5, v6] [.int x, .int i, .ref a] h Q = (ik_ h a i = true ∧ ex_ X d 201 143 [v0, v1, v2, v3, v4, v5, v6] [] (is_ h a i x) Q) := R_iast (show mx_at 201 142 = some (.iastore, 1) by decide +kernel)
set_option maxRecDepth 20000 in
theorem i201_143 : ex_ X d 201 143 [v0, v1, v2, v3, v4, v5, .int x] [] h Q = (mx_nl v5 = true ∧ ex_ X d 201 146 [v0, v1, v2, v3, v4, v5, .int (x + 1)] [] h Q) := R_iinc (n := 6) (c := 1) (show mx_at 201 143 = some (.iinc 6 1, 3) by decide +kernel) rfl
set_option maxRecDepth 20000 in
theorem i201_146 : ex_ X d 201 146 [v0, v1, v2, v3, v4, v5, v6] [] h Q = ex_ X d 201 115 [v0, v1, v2, v3, v4, v5, v6] [] h Q := R_to (show mx_at 201 146 = some (.goto (-31), 3) by decide +kernel) rfl rfl
set_option maxRecDepth 20000 in
theorem i201_149 : ex_ X d 201 149 [v0, v1, v2, v3, v4, v5, v6] [] h Q = ex_ X d 201 150 [v0, v1, v2, v3, v4, v5, v6] [.int 0] h Q := R_iconst (show mx_at 201 149 = some (.iconst 0, 1) by decide +kernel) (by decide)
set_option maxRecDepth 20000 in
theorem i201_150 : ex_ X d 201 150 [v0, v1, v2, v3, v4, v5, v6] [.int x] h Q = (mx_nl v5 = true ∧ ex_ X d 201 152 [v0, v1, v2, v3, v4, v5, .int x] [] h Q) := mx_t1 (R_st (ok := mx_isI) (n := 6) (w := 2) (show mx_at 201 150 = some (.istore 6, 2) by decide +kernel) (fun _ _ => rfl) (Nat.le_of_ble_eq_true rfl)) rfl
set_option maxRecDepth 20000 in
theorem i201_152 : ex_ X d 201 152 [v0, v1, v2, v3, v4, v5, .int x] [] h Q = ex_ X d 201 154 [v0, v1, v2, v3, v4, v5, .int x] [.int x] h Q := ex_nx (show mx_at 201 152 = some (.iload 6, 2) by decide +kernel) rfl
set_option maxRecDepth 20000 in
theorem i201_154 : ex_ X d 201 154 [v0, v1, v2, v3, v4, .int x, v6] [w0] h Q = ex_ X d 201 156 [v0, v1, v2, v3, v4, .int x, v6] [.int x, w0] h Q := ex_nx (show mx_at 201 154 = some (.iload 5, 2) by decide +kernel) rfl
set_option maxRecDepth 20000 in
theorem i201_156 : ex_ X d 201 156 [v0, v1, v2, v3, v4, v5, v6] [.int y, .int x] h Q = if y ≤ x then ex_ X d 201 187 [v0, v1, v2, v3, v4, v5, v6] [] h Q else ex_ X d 201 159 [v0, v1, v2, v3, v4, v5, v6] [] h Q := (R_br (show mx_at 201 156 = some (.if_icmp .ge 31, 3) by decide +kernel) rfl rfl).trans mx_ite
set_option maxRecDepth 20000 in
theorem i201_159 : ex_ X d 201 159 [.ref a, v1, v2, v3, v4, v5, v6] [] h Q = ex_ X d 201 160 [.ref a, v1, v2, v3, v4, v5, v6] [.ref a] h Q := ex_nx (show mx_at 201 159 = some (.aload_n 0, 1) by decide +kernel) rfl
set_option maxRecDepth 20000 in
theorem i201_160 : ex_ X d 201 160 [v0, v1, v2, v3, v4, v5, v6] [.ref a] h Q = (gk_ h a 22 [(12, 0)] = true ∧ ex_ X d 201 163 [v0, v1, v2, v3, v4, v5, v6] [gv_ h a 22] h Q) := R_getf (show mx_at 201 160 = some (.getfield 47, 3) by decide +kernel) (mx_fdo ow201 fd120047)
set_option maxRecDepth 20000 in
theorem i201_163 : ex_ X d 201 163 [v0, v1, v2, v3, v4, v5, v6] [w0] h Q = ex_ X d 201 165 [v0, v1, v2, v3, v4, v5, v6] [.int 40, w0] h Q := R_bipush (show mx_at 201 163 = some (.bipush 40, 2) by decide +kernel) (by decide)
set_option maxRecDepth 20000 in
theorem i201_165 : ex_ X d 201 165 [v0, v1, v2, .int x, v4, v5, v6] [w0, w1] h Q = ex_ X d 201 166 [v0, v1, v2, .int x, v4, v5, v6] [.int x, w0, w1] h Q := ex_nx (show mx_at 201 165 = some (.iload_n 3, 1) by decide +kernel) rfl
set_option maxRecDepth 20000 in
theorem i201_166 : ex_ X d 201 166 [v0, v1, v2, v3, v4, v5, v6] [.int y, .int x, w0] h Q = ex_ X d 201 167 [v0, v1, v2, v3, v4, v5, v6] [.int (x * y), w0] h Q := ex_nx (show mx_at 201 166 = some (.imul, 1) by decide +kernel) rfl
set_option maxRecDepth 20000 in
theorem i201_167 : ex_ X d 201 167 [v0, v1, v2, v3, .int x, v5, v6] [w0, w1] h Q = ex_ X d 201 169 [v0, v1, v2, v3, .int x, v5, v6] [.int x, w0, w1] h Q := ex_nx (show mx_at 201 167 = some (.iload 4, 2) by decide +kernel) rfl
set_option maxRecDepth 20000 in
theorem i201_169 : ex_ X d 201 169 [v0, v1, v2, v3, v4, v5, v6] [.int y, .int x, w0] h Q = ex_ X d 201 170 [v0, v1, v2, v3, v4, v5, v6] [.int (x + y), w0] h Q := ex_nx (show mx_at 201 169 = some (.iadd, 1) by decide +kernel) rfl
set_option maxRecDepth 20000 in
theorem i201_170 : ex_ X d 201 170 [v0, v1, v2, v3, v4, v5, .int x] [w0, w1] h Q = ex_ X d 201 172 [v0, v1, v2, v3, v4, v5, .int x] [.int x, w0, w1] h Q := ex_nx (show mx_at 201 170 = some (.iload 6, 2) by decide +kernel) rfl
set_option maxRecDepth 20000 in
theorem i201_172 : ex_ X d 201 172 [v0, v1, v2, v3, v4, v5, v6] [.int y, .int x, w0] h Q = ex_ X d 201 173 [v0, v1, v2, v3, v4, v5, v6] [.int (x + y), w0] h Q := ex_nx (show mx_at 201 172 = some (.iadd, 1) by decide +kernel) rfl
set_option maxRecDepth 20000 in
theorem i201_173 : ex_ X d 201 173 [.ref a, v1, v2, v3, v4, v5, v6] [w0, w1] h Q = ex_ X d 201 174 [.ref a, v1, v2, v3, v4, v5, v6] [.ref a, w0, w1] h Q := ex_nx (show mx_at 201 173 = some (.aload_n 0, 1) by decide +kernel) rfl
set_option maxRecDepth 20000 in
theorem i201_174 : ex_ X d 201 174 [v0, v1, v2, v3, v4, v5, v6] [.ref a, w0, w1] h Q = (gk_ h a 23 [(12, 0)] = true ∧ ex_ X d 201 177 [v0, v1, v2, v3, v4, v5, v6] [gv_ h a 23, w0, w1] h Q) := R_getf (show mx_at 201 174 = some (.getfield 50, 3) by decide +kernel) (mx_fdo ow201 fd120050)
set_option maxRecDepth 20000 in
theorem i201_177 : ex_ X d 201 177 [v0, v1, v2, v3, v4, v5, .int x] [w0, w1, w2] h Q = ex_ X d 201 179 [v0, v1, v2, v3, v4, v5, .int x] [.int x, w0, w1, w2] h Q := ex_nx (show mx_at 201 177 = some (.iload 6, 2) by decide +kernel) rfl
set_option maxRecDepth 20000 in
theorem i201_179 : ex_ X d 201 179 [v0, v1, v2, v3, v4, v5, v6] [.int i, .ref a, w0, w1] h Q = (ik_ h a i = true ∧ ex_ X d 201 180 [v0, v1, v2, v3, v4, v5, v6] [.int (ia_ h a i), w0, w1] h Q) := R_iald (show mx_at 201 179 = some (.iaload, 1) by decide +kernel)
set_option maxRecDepth 20000 in
theorem i201_180 : ex_ X d 201 180 [v0, v1, v2, v3, v4, v5, v6] [.int x, .int i, .ref a] h Q = (ik_ h a i = true ∧ ex_ X d 201 181 [v0, v1, v2, v3, v4, v5, v6] [] (is_ h a i x) Q) := R_iast (show mx_at 201 180 = some (.iastore, 1) by decide +kernel)
set_option maxRecDepth 20000 in
theorem i201_181 : ex_ X d 201 181 [v0, v1, v2, v3, v4, v5, .int x] [] h Q = (mx_nl v5 = true ∧ ex_ X d 201 184 [v0, v1, v2, v3, v4, v5, .int (x + 1)] [] h Q) := R_iinc (n := 6) (c := 1) (show mx_at 201 181 = some (.iinc 6 1, 3) by decide +kernel) rfl
set_option maxRecDepth 20000 in
theorem i201_184 : ex_ X d 201 184 [v0, v1, v2, v3, v4, v5, v6] [] h Q = ex_ X d 201 152 [v0, v1, v2, v3, v4, v5, v6] [] h Q := R_to (show mx_at 201 184 = some (.goto (-32), 3) by decide +kernel) rfl rfl
set_option maxRecDepth 20000 in
theorem i201_187 : ex_ X d 201 187 [v0, v1, v2, v3, v4, .int x, v6] [] h Q = ex_ X d 201 189 [v0, v1, v2, v3, v4, .int x, v6] [.int x] h Q := ex_nx (show mx_at 201 187 = some (.iload 5, 2) by decide +kernel) rfl
set_option maxRecDepth 20000 in
theorem i201_189 : ex_ X d 201 189 [v0, v1, v2, v3, v4, v5, v6] [.int x] h Q = Q (some (.int x)) h := ex_ret (show mx_at 201 189 = some (.ireturn, 1) by decide +kernel) (mx_retI rt201)
theorem i201_e : ev_ X d 201 [.ref a, .int x0, .int x1, .int x2, .int x3, .int x4] h Q = ex_ X d 201 0 [.ref a, .int x0, .int x1, .int x2, .int x3, .int x4, .double 0] [] h Q := by rw [ev_, ml201]; rfl
-- 202 X12_image
set_option maxRecDepth 20000 in
theorem i202_0 : ex_ X d 202 0 [.ref a] [] h Q = ex_ X d 202 1 [.ref a] [.ref a] h Q := ex_nx (show mx_at 202 0 = some (.aload_n 0, 1) by decide +kernel) rfl
set_option maxRecDepth 20000 in
theorem i202_1 : ex_ X d 202 1 [v0] [.ref a] h Q = (gk_ h a 0 [(12, 0)] = true ∧ ex_ X d 202 4 [v0] [gv_ h a 0] h Q) := R_getf (show mx_at 202 1 = some (.getfield 7, 3) by decide +kernel) (mx_fdo ow202 fd120007)
set_option maxRecDepth 20000 in
theorem i202_4 : ex_ X d 202 4 [.ref a] [w0] h Q = ex_ X d 202 5 [.ref a] [.ref a, w0] h Q := ex_nx (show mx_at 202 4 = some (.aload_n 0, 1) by decide +kernel) rfl
set_option maxRecDepth 20000 in
theorem i202_5 : ex_ X d 202 5 [v0] [.ref a, w0] h Q = (gk_ h a 2 [(12, 0)] = true ∧ ex_ X d 202 8 [v0] [gv_ h a 2, w0] h Q) := R_getf (show mx_at 202 5 = some (.getfield 16, 3) by decide +kernel) (mx_fdo ow202 fd120016)
set_option maxRecDepth 20000 in
theorem i202_8 : ex_ X (d + 1) 202 8 [v0] [.ref a1, .ref a0] h Q = ev_ X d 126 [.ref a0, .ref a1] h (fun r h' => ex_ X (d + 1) 202 11 [v0] (r.toList ++ []) h' Q) := R_stat (show mx_at 202 8 = some (.invokestatic 242, 3) by decide +kernel) (mx_clk ow202 cc12_242) (Nat.le_of_ble_eq_true rfl) rfl rfl (Nat.le_of_ble_eq_true rfl) ml126 (Nat.le_of_ble_eq_true rfl)
set_option maxRecDepth 20000 in
theorem i202_11 : ex_ X d 202 11 [.ref a] [] h Q = ex_ X d 202 12 [.ref a] [.ref a] h Q := ex_nx (show mx_at 202 11 = some (.aload_n 0, 1) by decide +kernel) rfl
set_option maxRecDepth 20000 in
theorem i202_12 : ex_ X d 202 12 [v0] [.ref a] h Q = ex_ X d 202 13 [v0] [.ref a, .ref a] h Q := ex_nx (show mx_at 202 12 = some (.dup, 1) by decide +kernel) rfl
set_option maxRecDepth 20000 in
theorem i202_13 : ex_ X d 202 13 [v0] [.ref a, w0] h Q = (gk_ h a 3 [(12, 0)] = true ∧ ex_ X d 202 16 [v0] [gv_ h a 3, w0] h Q) := R_getf (show mx_at 202 13 = some (.getfield 288, 3) by decide +kernel) (mx_fdo ow202 fd120288)
set_option maxRecDepth 20000 in
theorem i202_16 : ex_ X d 202 16 [v0] [w0, w1] h Q = ex_ X d 202 17 [v0] [.int 1, w0, w1] h Q := R_iconst (show mx_at 202 16 = some (.iconst 1, 1) by decide +kernel) (by decide)
set_option maxRecDepth 20000 in
theorem i202_17 : ex_ X d 202 17 [v0] [.int y, .int x, w0] h Q = ex_ X d 202 18 [v0] [.int (x + y), w0] h Q := ex_nx (show mx_at 202 17 = some (.iadd, 1) by decide +kernel) rfl
set_option maxRecDepth 20000 in
theorem i202_18 : ex_ X d 202 18 [v0] [w, .ref a] h Q = (pk_ 202 h a 3 w [(12, 0)] = true ∧ ex_ X d 202 21 [v0] [] (pf_ h a 3 w) Q) := R_putf (show mx_at 202 18 = some (.putfield 288, 3) by decide +kernel) (mx_fdo ow202 fd120288)
set_option maxRecDepth 20000 in
theorem i202_21 : ex_ X d 202 21 [.ref a] [] h Q = ex_ X d 202 22 [.ref a] [.ref a] h Q := ex_nx (show mx_at 202 21 = some (.aload_n 0, 1) by decide +kernel) rfl
set_option maxRecDepth 20000 in
theorem i202_22 : ex_ X d 202 22 [v0] [.ref a] h Q = (gk_ h a 3 [(12, 0)] = true ∧ ex_ X d 202 25 [v0] [gv_ h a 3] h Q) := R_getf (show mx_at 202 22 = some (.getfield 288, 3) by decide +kernel) (mx_fdo ow202 fd120288)
set_option maxRecDepth 20000 in
theorem i202_25 : ex_ X d 202 25 [v0] [.int x] h Q = Q (some (.int x)) h := ex_ret (show mx_at 202 25 = some (.ireturn, 1) by decide +kernel) (mx_retI rt202)
theorem i202_e : ev_ X d 202 [.ref a] h Q = ex_ X d 202 0 [.ref a] [] h Q := by rw [ev_, ml202]; rfl
-- 203 X12_restore
set_option maxRecDepth 20000 in
theorem i203_0 : ex_ X d 203 0 [.ref a] [] h Q = ex_ X d 203 1 [.ref a] [.ref a] h Q := ex_nx (show mx_at 203 0 = some (.aload_n 0, 1) by decide +kernel) rfl
set_option maxRecDepth 20000 in
theorem i203_1 : ex_ X d 203 1 [v0] [.ref a] h Q = (gk_ h a 3 [(12, 0)] = true ∧ ex_ X d 203 4 [v0] [gv_ h a 3] h Q) := R_getf (show mx_at 203 1 = some (.getfield 288, 3) by decide +kernel) (mx_fdo ow203 fd120288)
set_option maxRecDepth 20000 in
theorem i203_4 : ex_ X d 203 4 [v0] [.int x] h Q = if ¬ x = 0 then ex_ X d 203 13 [v0] [] h Q else ex_ X d 203 7 [v0] [] h Q := (R_br (show mx_at 203 4 = some (.ifCond .ne 9, 3) by decide +kernel) rfl rfl).trans mx_ite
set_option maxRecDepth 20000 in
theorem i203_7 : ex_ X d 203 7 [.ref a] [] h Q = ex_ X d 203 8 [.ref a] [.ref a] h Q := ex_nx (show mx_at 203 7 = some (.aload_n 0, 1) by decide +kernel) rfl
set_option maxRecDepth 20000 in
theorem i203_8 : ex_ X d 203 8 [v0] [w0] h Q = ex_ X d 203 9 [v0] [.int 2, w0] h Q := R_iconst (show mx_at 203 8 = some (.iconst 2, 1) by decide +kernel) (by decide)
set_option maxRecDepth 20000 in
theorem i203_9 (hc : co_ h a = some 12) : ex_ X (d + 1) 203 9 [v0] [.int x0, .ref a] h Q = ev_ X d 123 [.ref a, .int x0] h (fun r h' => ex_ X (d + 1) 203 12 [v0] (r.toList ++ []) h' Q) := R_vir (show mx_at 203 9 = some (.invokevirtual 131, 3) by decide +kernel) (mx_clk ow203 cc12_131) (Nat.le_of_ble_eq_true rfl) rfl rfl hc rfl (Nat.le_of_ble_eq_true rfl) (Nat.le_of_ble_eq_true rfl) (by rw [ml123]; exact Nat.le_of_ble_eq_true rfl)
set_option maxRecDepth 20000 in
theorem i203_12 : ex_ X d 203 12 [v0] [.int x] h Q = Q (some (.int x)) h := ex_ret (show mx_at 203 12 = some (.ireturn, 1) by decide +kernel) (mx_retI rt203)
set_option maxRecDepth 20000 in
theorem i203_13 : ex_ X d 203 13 [.ref a] [] h Q = ex_ X d 203 14 [.ref a] [.ref a] h Q := ex_nx (show mx_at 203 13 = some (.aload_n 0, 1) by decide +kernel) rfl
set_option maxRecDepth 20000 in
theorem i203_14 : ex_ X d 203 14 [v0] [.ref a] h Q = (gk_ h a 2 [(12, 0)] = true ∧ ex_ X d 203 17 [v0] [gv_ h a 2] h Q) := R_getf (show mx_at 203 14 = some (.getfield 16, 3) by decide +kernel) (mx_fdo ow203 fd120016)
set_option maxRecDepth 20000 in
theorem i203_17 : ex_ X d 203 17 [.ref a] [w0] h Q = ex_ X d 203 18 [.ref a] [.ref a, w0] h Q := ex_nx (show mx_at 203 17 = some (.aload_n 0, 1) by decide +kernel) rfl
set_option maxRecDepth 20000 in
theorem i203_18 : ex_ X d 203 18 [v0] [.ref a, w0] h Q = (gk_ h a 0 [(12, 0)] = true ∧ ex_ X d 203 21 [v0] [gv_ h a 0, w0] h Q) := R_getf (show mx_at 203 18 = some (.getfield 7, 3) by decide +kernel) (mx_fdo ow203 fd120007)
set_option maxRecDepth 20000 in
theorem i203_21 : ex_ X (d + 1) 203 21 [v0] [.ref a1, .ref a0] h Q = ev_ X d 126 [.ref a0, .ref a1] h (fun r h' => ex_ X (d + 1) 203 24 [v0] (r.toList ++ []) h' Q) := R_stat (show mx_at 203 21 = some (.invokestatic 242, 3) by decide +kernel) (mx_clk ow203 cc12_242) (Nat.le_of_ble_eq_true rfl) rfl rfl (Nat.le_of_ble_eq_true rfl) ml126 (Nat.le_of_ble_eq_true rfl)
set_option maxRecDepth 20000 in
theorem i203_24 : ex_ X d 203 24 [.ref a] [] h Q = ex_ X d 203 25 [.ref a] [.ref a] h Q := ex_nx (show mx_at 203 24 = some (.aload_n 0, 1) by decide +kernel) rfl
set_option maxRecDepth 20000 in
theorem i203_25 : ex_ X d 203 25 [v0] [.ref a] h Q = (gk_ h a 0 [(12, 0)] = true ∧ ex_ X d 203 28 [v0] [gv_ h a 0] h Q) := R_getf (show mx_at 203 25 = some (.getfield 7, 3) by decide +kernel) (mx_fdo ow203 fd120007)
set_option maxRecDepth 20000 in
theorem i203_28 : ex_ X d 203 28 [v0] [w0] h Q = ex_ X d 203 29 [v0] [.int 0, w0] h Q := R_iconst (show mx_at 203 28 = some (.iconst 0, 1) by decide +kernel) (by decide)
set_option maxRecDepth 20000 in
theorem i203_29 : ex_ X d 203 29 [v0] [.int i, .ref a] h Q = (ik_ h a i = true ∧ ex_ X d 203 30 [v0] [.int (ia_ h a i)] h Q) := R_iald (show mx_at 203 29 = some (.iaload, 1) by decide +kernel)
set_option maxRecDepth 20000 in
theorem i203_30 : ex_ X d 203 30 [v0] [.int x] h Q = Q (some (.int x)) h := ex_ret (show mx_at 203 30 = some (.ireturn, 1) by decide +kernel) (mx_retI rt203)
theorem i203_e : ev_ X d 203 [.ref a] h Q = ex_ X d 203 0 [.ref a] [] h Q := by rw [ev_, ml203]; rfl
-- 204 X12_tell
set_option maxRecDepth 20000 in
theorem i204_0 : ex_ X d 204 0 [.ref a, v1] [] h Q = ex_ X d 204 1 [.ref a, v1] [.ref a] h Q := ex_nx (show mx_at 204 0 = some (.aload_n 0, 1) by decide +kernel) rfl
set_option maxRecDepth 20000 in
theorem i204_1 : ex_ X d 204 1 [v0, v1] [.ref a] h Q = (gk_ h a 0 [(12, 0)] = true ∧ ex_ X d 204 4 [v0, v1] [gv_ h a 0] h Q) := R_getf (show mx_at 204 1 = some (.getfield 7, 3) by decide +kernel) (mx_fdo ow204 fd120007)
set_option maxRecDepth 20000 in
theorem i204_4 : ex_ X d 204 4 [v0, v1] [w0] h Q = ex_ X d 204 6 [v0, v1] [.int 10, w0] h Q := R_bipush (show mx_at 204 4 = some (.bipush 10, 2) by decide +kernel) (by decide)
set_option maxRecDepth 20000 in
theorem i204_6 : ex_ X d 204 6 [v0, v1] [.int i, .ref a] h Q = (ik_ h a i = true ∧ ex_ X d 204 7 [v0, v1] [.int (ia_ h a i)] h Q) := R_iald (show mx_at 204 6 = some (.iaload, 1) by decide +kernel)
set_option maxRecDepth 20000 in
theorem i204_7 : ex_ X d 204 7 [v0, v1] [w0] h Q = ex_ X d 204 9 [v0, v1] [.int 20, w0] h Q := R_bipush (show mx_at 204 7 = some (.bipush 20, 2) by decide +kernel) (by decide)
set_option maxRecDepth 20000 in
theorem i204_9 : ex_ X d 204 9 [v0, v1] [.int y, .int x] h Q = if ¬ x = y then ex_ X d 204 18 [v0, v1] [] h Q else ex_ X d 204 12 [v0, v1] [] h Q := (R_br (show mx_at 204 9 = some (.if_icmp .ne 9, 3) by decide +kernel) rfl rfl).trans mx_ite
set_option maxRecDepth 20000 in
theorem i204_12 : ex_ X d 204 12 [.ref a, v1] [] h Q = ex_ X d 204 13 [.ref a, v1] [.ref a] h Q := ex_nx (show mx_at 204 12 = some (.aload_n 0, 1) by decide +kernel) rfl
set_option maxRecDepth 20000 in
theorem i204_13 : ex_ X d 204 13 [v0, v1] [w0] h Q = ex_ X d 204 14 [v0, v1] [.int 4, w0] h Q := R_iconst (show mx_at 204 13 = some (.iconst 4, 1) by decide +kernel) (by decide)
set_option maxRecDepth 20000 in
theorem i204_14 (hc : co_ h a = some 12) : ex_ X (d + 1) 204 14 [v0, v1] [.int x0, .ref a] h Q = ev_ X d 123 [.ref a, .int x0] h (fun r h' => ex_ X (d + 1) 204 17 [v0, v1] (r.toList ++ []) h' Q) := R_vir (show mx_at 204 14 = some (.invokevirtual 131, 3) by decide +kernel) (mx_clk ow204 cc12_131) (Nat.le_of_ble_eq_true rfl) rfl rfl hc rfl (Nat.le_of_ble_eq_true rfl) (Nat.le_of_ble_eq_true rfl) (by rw [ml123]; exact Nat.le_of_ble_eq_true rfl)
set_option maxRecDepth 20000 in
theorem i204_17 : ex_ X d 204 17 [v0, v1] [.int x] h Q = Q (some (.int x)) h := ex_ret (show mx_at 204 17 = some (.ireturn, 1) by decide +kernel) (mx_retI rt204)
set_option maxRecDepth 20000 in
theorem i204_18 : ex_ X d 204 18 [.ref a, v1] [] h Q = ex_ X d 204 19 [.ref a, v1] [.ref a] h Q := ex_nx (show mx_at 204 18 = some (.aload_n 0, 1) by decide +kernel) rfl
set_option maxRecDepth 20000 in
theorem i204_19 : ex_ X d 204 19 [v0, v1] [.ref a] h Q = (gk_ h a 0 [(12, 0)] = true ∧ ex_ X d 204 22 [v0, v1] [gv_ h a 0] h Q) := R_getf (show mx_at 204 19 = some (.getfield 7, 3) by decide +kernel) (mx_fdo ow204 fd120007)
set_option maxRecDepth 20000 in
theorem i204_22 : ex_ X d 204 22 [v0, v1] [w0] h Q = ex_ X d 204 24 [v0, v1] [.int 106, w0] h Q := R_bipush (show mx_at 204 22 = some (.bipush 106, 2) by decide +kernel) (by decide)
set_option maxRecDepth 20000 in
theorem i204_24 : ex_ X d 204 24 [.ref a, v1] [w0, w1] h Q = ex_ X d 204 25 [.ref a, v1] [.ref a, w0, w1] h Q := ex_nx (show mx_at 204 24 = some (.aload_n 0, 1) by decide +kernel) rfl
set_option maxRecDepth 20000 in
theorem i204_25 : ex_ X d 204 25 [v0, v1] [.ref a, w0, w1] h Q = (gk_ h a 0 [(12, 0)] = true ∧ ex_ X d 204 28 [v0, v1] [gv_ h a 0, w0, w1] h Q) := R_getf (show mx_at 204 25 = some (.getfield 7, 3) by decide +kernel) (mx_fdo ow204 fd120007)
set_option maxRecDepth 20000 in
theorem i204_28 : ex_ X d 204 28 [v0, v1] [w0, w1, w2] h Q = ex_ X d 204 30 [v0, v1] [.int 10, w0, w1, w2] h Q := R_bipush (show mx_at 204 28 = some (.bipush 10, 2) by decide +kernel) (by decide)
set_option maxRecDepth 20000 in
theorem i204_30 : ex_ X d 204 30 [v0, v1] [.int i, .ref a, w0, w1] h Q = (ik_ h a i = true ∧ ex_ X d 204 31 [v0, v1] [.int (ia_ h a i), w0, w1] h Q) := R_iald (show mx_at 204 30 = some (.iaload, 1) by decide +kernel)
set_option maxRecDepth 20000 in
theorem i204_31 : ex_ X d 204 31 [v0, v1] [.int y, .int x, w0] h Q = ex_ X d 204 32 [v0, v1] [.int (x + y), w0] h Q := ex_nx (show mx_at 204 31 = some (.iadd, 1) by decide +kernel) rfl
set_option maxRecDepth 20000 in
theorem i204_32 : ex_ X d 204 32 [v0, .int x] [w0, w1] h Q = ex_ X d 204 33 [v0, .int x] [.int x, w0, w1] h Q := ex_nx (show mx_at 204 32 = some (.iload_n 1, 1) by decide +kernel) rfl
set_option maxRecDepth 20000 in
theorem i204_33 : ex_ X d 204 33 [v0, v1] [.int x, .int i, .ref a] h Q = (ik_ h a i = true ∧ ex_ X d 204 34 [v0, v1] [] (is_ h a i x) Q) := R_iast (show mx_at 204 33 = some (.iastore, 1) by decide +kernel)
set_option maxRecDepth 20000 in
theorem i204_34 : ex_ X d 204 34 [.ref a, v1] [] h Q = ex_ X d 204 35 [.ref a, v1] [.ref a] h Q := ex_nx (show mx_at 204 34 = some (.aload_n 0, 1) by decide +kernel) rfl
set_option maxRecDepth 20000 in
theorem i204_35 : ex_ X d 204 35 [v0, v1] [.ref a] h Q = (gk_ h a 0 [(12, 0)] = true ∧ ex_ X d 204 38 [v0, v1] [gv_ h a 0] h Q) := R_getf (show mx_at 204 35 = some (.getfield 7, 3) by decide +kernel) (mx_fdo ow204 fd120007)
set_option maxRecDepth 20000 in
theorem i204_38 : ex_ X d 204 38 [v0, v1] [w0] h Q = ex_ X d 204 40 [v0, v1] [.int 10, w0] h Q := R_bipush (show mx_at 204 38 = some (.bipush 10, 2) by decide +kernel) (by decide)
set_option maxRecDepth 20000 in
theorem i204_40 : ex_ X d 204 40 [v0, v1] [.int x, .ref a] h Q = ex_ X d 204 41 [v0, v1] [.int x, .ref a, .int x, .ref a] h Q := ex_nx (show mx_at 204 40 = some (.dup2, 1) by decide +kernel) rfl
set_option maxRecDepth 20000 in
theorem i204_41 : ex_ X d 204 41 [v0, v1] [.int i, .ref a, w0, w1] h Q = (ik_ h a i = true ∧ ex_ X d 204 42 [v0, v1] [.int (ia_ h a i), w0, w1] h Q) := R_iald (show mx_at 204 41 = some (.iaload, 1) by decide +kernel)
set_option maxRecDepth 20000 in
theorem i204_42 : ex_ X d 204 42 [v0, v1] [w0, w1, w2] h Q = ex_ X d 204 43 [v0, v1] [.int 1, w0, w1, w2] h Q := R_iconst (show mx_at 204 42 = some (.iconst 1, 1) by decide +kernel) (by decide)
set_option maxRecDepth 20000 in
theorem i204_43 : ex_ X d 204 43 [v0, v1] [.int y, .int x, w0, w1] h Q = ex_ X d 204 44 [v0, v1] [.int (x + y), w0, w1] h Q := ex_nx (show mx_at 204 43 = some (.iadd, 1) by decide +kernel) rfl
set_option maxRecDepth 20000 in
theorem i204_44 : ex_ X d 204 44 [v0, v1] [.int x, .int i, .ref a] h Q = (ik_ h a i = true ∧ ex_ X d 204 45 [v0, v1] [] (is_ h a i x) Q) := R_iast (show mx_at 204 44 = some (.iastore, 1) by decide +kernel)
set_option maxRecDepth 20000 in
theorem i204_45 : ex_ X d 204 45 [.ref a, v1] [] h Q = ex_ X d 204 46 [.ref a, v1] [.ref a] h Q := ex_nx (show mx_at 204 45 = some (.aload_n 0, 1) by decide +kernel) rfl
set_option maxRecDepth 20000 in
theorem i204_46 : ex_ X d 204 46 [v0, v1] [.ref a] h Q = (gk_ h a 0 [(12, 0)] = true ∧ ex_ X d 204 49 [v0, v1] [gv_ h a 0] h Q) := R_getf (show mx_at 204 46 = some (.getfield 7, 3) by decide +kernel) (mx_fdo ow204 fd120007)
set_option maxRecDepth 20000 in
theorem i204_49 : ex_ X d 204 49 [v0, v1] [w0] h Q = ex_ X d 204 51 [v0, v1] [.int 10, w0] h Q := R_bipush (show mx_at 204 49 = some (.bipush 10, 2) by decide +kernel) (by decide)
set_option maxRecDepth 20000 in
theorem i204_51 : ex_ X d 204 51 [v0, v1] [.int i, .ref a] h Q = (ik_ h a i = true ∧ ex_ X d 204 52 [v0, v1] [.int (ia_ h a i)] h Q) := R_iald (show mx_at 204 51 = some (.iaload, 1) by decide +kernel)
set_option maxRecDepth 20000 in
theorem i204_52 : ex_ X d 204 52 [v0, v1] [.int x] h Q = Q (some (.int x)) h := ex_ret (show mx_at 204 52 = some (.ireturn, 1) by decide +kernel) (mx_retI rt204)
theorem i204_e : ev_ X d 204 [.ref a, .int x0] h Q = ex_ X d 204 0 [.ref a, .int x0] [] h Q := by rw [ev_, ml204]; rfl
-- 205 X12_check
set_option maxRecDepth 20000 in
theorem i205_0 : ex_ X d 205 0 [.ref a, v1, v2, v3] [] h Q = ex_ X d 205 1 [.ref a, v1, v2, v3] [.ref a] h Q := ex_nx (show mx_at 205 0 = some (.aload_n 0, 1) by decide +kernel) rfl
set_option maxRecDepth 20000 in
theorem i205_1 : ex_ X d 205 1 [v0, v1, v2, v3] [.ref a] h Q = (gk_ h a 0 [(12, 0)] = true ∧ ex_ X d 205 4 [v0, v1, v2, v3] [gv_ h a 0] h Q) := R_getf (show mx_at 205 1 = some (.getfield 7, 3) by decide +kernel) (mx_fdo ow205 fd120007)
set_option maxRecDepth 20000 in
theorem i205_4 : ex_ X d 205 4 [v0, v1, v2, v3] [w0] h Q = ex_ X d 205 6 [v0, v1, v2, v3] [.int 10, w0] h Q := R_bipush (show mx_at 205 4 = some (.bipush 10, 2) by decide +kernel) (by decide)
set_option maxRecDepth 20000 in
theorem i205_6 : ex_ X d 205 6 [v0, v1, v2, v3] [.int i, .ref a] h Q = (ik_ h a i = true ∧ ex_ X d 205 7 [v0, v1, v2, v3] [.int (ia_ h a i)] h Q) := R_iald (show mx_at 205 6 = some (.iaload, 1) by decide +kernel)
set_option maxRecDepth 20000 in
theorem i205_7 : ex_ X d 205 7 [v0, v1, v2, v3] [.int x] h Q = (mx_nl v1 = true ∧ ex_ X d 205 8 [v0, v1, .int x, v3] [] h Q) := mx_t1 (R_st (ok := mx_isI) (n := 2) (w := 1) (show mx_at 205 7 = some (.istore_n 2, 1) by decide +kernel) (fun _ _ => rfl) (Nat.le_of_ble_eq_true rfl)) rfl
set_option maxRecDepth 20000 in
theorem i205_8 : ex_ X d 205 8 [.ref a, v1, v2, v3] [] h Q = ex_ X d 205 9 [.ref a, v1, v2, v3] [.ref a] h Q := ex_nx (show mx_at 205 8 = some (.aload_n 0, 1) by decide +kernel) rfl
set_option maxRecDepth 20000 in
theorem i205_9 : ex_ X d 205 9 [v0, v1, v2, v3] [.ref a] h Q = (gk_ h a 0 [(12, 0)] = true ∧ ex_ X d 205 12 [v0, v1, v2, v3] [gv_ h a 0] h Q) := R_getf (show mx_at 205 9 = some (.getfield 7, 3) by decide +kernel) (mx_fdo ow205 fd120007)
set_option maxRecDepth 20000 in
theorem i205_12 : ex_ X d 205 12 [v0, v1, v2, v3] [w0] h Q = ex_ X d 205 14 [v0, v1, v2, v3] [.int 10, w0] h Q := R_bipush (show mx_at 205 12 = some (.bipush 10, 2) by decide +kernel) (by decide)
set_option maxRecDepth 20000 in
theorem i205_14 : ex_ X d 205 14 [v0, v1, v2, v3] [w0, w1] h Q = ex_ X d 205 15 [v0, v1, v2, v3] [.int 0, w0, w1] h Q := R_iconst (show mx_at 205 14 = some (.iconst 0, 1) by decide +kernel) (by decide)
set_option maxRecDepth 20000 in
theorem i205_15 : ex_ X d 205 15 [v0, v1, v2, v3] [.int x, .int i, .ref a] h Q = (ik_ h a i = true ∧ ex_ X d 205 16 [v0, v1, v2, v3] [] (is_ h a i x) Q) := R_iast (show mx_at 205 15 = some (.iastore, 1) by decide +kernel)
set_option maxRecDepth 20000 in
theorem i205_16 : ex_ X d 205 16 [v0, .int x, v2, v3] [] h Q = ex_ X d 205 17 [v0, .int x, v2, v3] [.int x] h Q := ex_nx (show mx_at 205 16 = some (.iload_n 1, 1) by decide +kernel) rfl
set_option maxRecDepth 20000 in
theorem i205_17 : ex_ X (d + 1) 205 17 [v0, v1, v2, v3] [.int x0] h Q = ev_ X d 174 [.int x0] h (fun r h' => ex_ X (d + 1) 205 20 [v0, v1, v2, v3] (r.toList ++ []) h' Q) := R_stat (show mx_at 205 17 = some (.invokestatic 246, 3) by decide +kernel) (mx_clk ow205 cc12_246) (Nat.le_of_ble_eq_true rfl) rfl rfl (Nat.le_of_ble_eq_true rfl) ml174 (Nat.le_of_ble_eq_true rfl)
set_option maxRecDepth 20000 in
theorem i205_20 : ex_ X d 205 20 [v0, v1, v2, v3] [.int x] h Q = if ¬ x = 0 then ex_ X d 205 29 [v0, v1, v2, v3] [] h Q else ex_ X d 205 23 [v0, v1, v2, v3] [] h Q := (R_br (show mx_at 205 20 = some (.ifCond .ne 9, 3) by decide +kernel) rfl rfl).trans mx_ite
set_option maxRecDepth 20000 in
theorem i205_23 : ex_ X d 205 23 [.ref a, v1, v2, v3] [] h Q = ex_ X d 205 24 [.ref a, v1, v2, v3] [.ref a] h Q := ex_nx (show mx_at 205 23 = some (.aload_n 0, 1) by decide +kernel) rfl
set_option maxRecDepth 20000 in
theorem i205_24 : ex_ X d 205 24 [v0, v1, v2, v3] [w0] h Q = ex_ X d 205 25 [v0, v1, v2, v3] [.int 1, w0] h Q := R_iconst (show mx_at 205 24 = some (.iconst 1, 1) by decide +kernel) (by decide)
set_option maxRecDepth 20000 in
theorem i205_25 (hc : co_ h a = some 12) : ex_ X (d + 1) 205 25 [v0, v1, v2, v3] [.int x0, .ref a] h Q = ev_ X d 123 [.ref a, .int x0] h (fun r h' => ex_ X (d + 1) 205 28 [v0, v1, v2, v3] (r.toList ++ []) h' Q) := R_vir (show mx_at 205 25 = some (.invokevirtual 131, 3) by decide +kernel) (mx_clk ow205 cc12_131) (Nat.le_of_ble_eq_true rfl) rfl rfl hc rfl (Nat.le_of_ble_eq_true rfl) (Nat.le_of_ble_eq_true rfl) (by rw [ml123]; exact Nat.le_of_ble_eq_true rfl)
set_option maxRecDepth 20000 in
theorem i205_28 : ex_ X d 205 28 [v0, v1, v2, v3] [.int x] h Q = Q (some (.int x)) h := ex_ret (show mx_at 205 28 = some (.ireturn, 1) by decide +kernel) (mx_retI rt205)
set_option maxRecDepth 20000 in
theorem i205_29 : ex_ X d 205 29 [.ref a, v1, v2, v3] [] h Q = ex_ X d 205 30 [.ref a, v1, v2, v3] [.ref a] h Q := ex_nx (show mx_at 205 29 = some (.aload_n 0, 1) by decide +kernel) rfl
set_option maxRecDepth 20000 in
theorem i205_30 : ex_ X d 205 30 [v0, .int x, v2, v3] [w0] h Q = ex_ X d 205 31 [v0, .int x, v2, v3] [.int x, w0] h Q := ex_nx (show mx_at 205 30 = some (.iload_n 1, 1) by decide +kernel) rfl
set_option maxRecDepth 20000 in
theorem i205_31 (hc : co_ h a = some 12) : ex_ X (d + 1) 205 31 [v0, v1, v2, v3] [.int x0, .ref a] h Q = ev_ X d 175 [.ref a, .int x0] h (fun r h' => ex_ X (d + 1) 205 34 [v0, v1, v2, v3] (r.toList ++ []) h' Q) := R_vir (show mx_at 205 31 = some (.invokevirtual 249, 3) by decide +kernel) (mx_clk ow205 cc12_249) (Nat.le_of_ble_eq_true rfl) rfl rfl hc rfl (Nat.le_of_ble_eq_true rfl) (Nat.le_of_ble_eq_true rfl) (by rw [ml175]; exact Nat.le_of_ble_eq_true rfl)
set_option maxRecDepth 20000 in
theorem i205_34 : ex_ X d 205 34 [v0, v1, v2, v3] [] h Q = ex_ X d 205 35 [v0, v1, v2, v3] [.int 0] h Q := R_iconst (show mx_at 205 34 = some (.iconst 0, 1) by decide +kernel) (by decide)
set_option maxRecDepth 20000 in
theorem i205_35 : ex_ X d 205 35 [v0, v1, v2, v3] [.int x] h Q = (mx_nl v2 = true ∧ ex_ X d 205 36 [v0, v1, v2, .int x] [] h Q) := mx_t1 (R_st (ok := mx_isI) (n := 3) (w := 1) (show mx_at 205 35 = some (.istore_n 3, 1) by decide +kernel) (fun _ _ => rfl) (Nat.le_of_ble_eq_true rfl)) rfl
set_option maxRecDepth 20000 in
theorem i205_36 : ex_ X d 205 36 [v0, v1, v2, .int x] [] h Q = ex_ X d 205 37 [v0, v1, v2, .int x] [.int x] h Q := ex_nx (show mx_at 205 36 = some (.iload_n 3, 1) by decide +kernel) rfl
set_option maxRecDepth 20000 in
theorem i205_37 : ex_ X d 205 37 [v0, v1, .int x, v3] [w0] h Q = ex_ X d 205 38 [v0, v1, .int x, v3] [.int x, w0] h Q := ex_nx (show mx_at 205 37 = some (.iload_n 2, 1) by decide +kernel) rfl
set_option maxRecDepth 20000 in
theorem i205_38 : ex_ X d 205 38 [v0, v1, v2, v3] [.int y, .int x] h Q = if y ≤ x then ex_ X d 205 79 [v0, v1, v2, v3] [] h Q else ex_ X d 205 41 [v0, v1, v2, v3] [] h Q := (R_br (show mx_at 205 38 = some (.if_icmp .ge 41, 3) by decide +kernel) rfl rfl).trans mx_ite
set_option maxRecDepth 20000 in
theorem i205_41 : ex_ X d 205 41 [v0, v1, v2, .int x] [] h Q = ex_ X d 205 42 [v0, v1, v2, .int x] [.int x] h Q := ex_nx (show mx_at 205 41 = some (.iload_n 3, 1) by decide +kernel) rfl
set_option maxRecDepth 20000 in
theorem i205_42 : ex_ X d 205 42 [.ref a, v1, v2, v3] [w0] h Q = ex_ X d 205 43 [.ref a, v1, v2, v3] [.ref a, w0] h Q := ex_nx (show mx_at 205 42 = some (.aload_n 0, 1) by decide +kernel) rfl
set_option maxRecDepth 20000 in
theorem i205_43 : ex_ X d 205 43 [v0, v1, v2, v3] [.ref a, w0] h Q = (gk_ h a 0 [(12, 0)] = true ∧ ex_ X d 205 46 [v0, v1, v2, v3] [gv_ h a 0, w0] h Q) := R_getf (show mx_at 205 43 = some (.getfield 7, 3) by decide +kernel) (mx_fdo ow205 fd120007)
set_option maxRecDepth 20000 in
theorem i205_46 : ex_ X d 205 46 [v0, v1, v2, v3] [w0, w1] h Q = ex_ X d 205 47 [v0, v1, v2, v3] [.int 1, w0, w1] h Q := R_iconst (show mx_at 205 46 = some (.iconst 1, 1) by decide +kernel) (by decide)
set_option maxRecDepth 20000 in
theorem i205_47 : ex_ X d 205 47 [v0, v1, v2, v3] [.int i, .ref a, w0] h Q = (ik_ h a i = true ∧ ex_ X d 205 48 [v0, v1, v2, v3] [.int (ia_ h a i), w0] h Q) := R_iald (show mx_at 205 47 = some (.iaload, 1) by decide +kernel)
set_option maxRecDepth 20000 in
theorem i205_48 : ex_ X d 205 48 [v0, v1, v2, v3] [.int y, .int x] h Q = if y ≤ x then ex_ X d 205 79 [v0, v1, v2, v3] [] h Q else ex_ X d 205 51 [v0, v1, v2, v3] [] h Q := (R_br (show mx_at 205 48 = some (.if_icmp .ge 31, 3) by decide +kernel) rfl rfl).trans mx_ite
set_option maxRecDepth 20000 in
theorem i205_51 : ex_ X d 205 51 [.ref a, v1, v2, v3] [] h Q = ex_ X d 205 52 [.ref a, v1, v2, v3] [.ref a] h Q := ex_nx (show mx_at 205 51 = some (.aload_n 0, 1) by decide +kernel) rfl
set_option maxRecDepth 20000 in
theorem i205_52 : ex_ X d 205 52 [v0, v1, v2, v3] [.ref a] h Q = (gk_ h a 0 [(12, 0)] = true ∧ ex_ X d 205 55 [v0, v1, v2, v3] [gv_ h a 0] h Q) := R_getf (show mx_at 205 52 = some (.getfield 7, 3) by decide +kernel) (mx_fdo ow205 fd120007)
set_option maxRecDepth 20000 in
theorem i205_55 : ex_ X d 205 55 [v0, v1, v2, v3] [w0] h Q = ex_ X d 205 57 [v0, v1, v2, v3] [.int 106, w0] h Q := R_bipush (show mx_at 205 55 = some (.bipush 106, 2) by decide +kernel) (by decide)
set_option maxRecDepth 20000 in
theorem i205_57 : ex_ X d 205 57 [v0, v1, v2, .int x] [w0, w1] h Q = ex_ X d 205 58 [v0, v1, v2, .int x] [.int x, w0, w1] h Q := ex_nx (show mx_at 205 57 = some (.iload_n 3, 1) by decide +kernel) rfl
set_option maxRecDepth 20000 in
theorem i205_58 : ex_ X d 205 58 [v0, v1, v2, v3] [.int y, .int x, w0] h Q = ex_ X d 205 59 [v0, v1, v2, v3] [.int (x + y), w0] h Q := ex_nx (show mx_at 205 58 = some (.iadd, 1) by decide +kernel) rfl
set_option maxRecDepth 20000 in
theorem i205_59 : ex_ X d 205 59 [v0, v1, v2, v3] [.int i, .ref a] h Q = (ik_ h a i = true ∧ ex_ X d 205 60 [v0, v1, v2, v3] [.int (ia_ h a i)] h Q) := R_iald (show mx_at 205 59 = some (.iaload, 1) by decide +kernel)
set_option maxRecDepth 20000 in
theorem i205_60 : ex_ X d 205 60 [.ref a, v1, v2, v3] [w0] h Q = ex_ X d 205 61 [.ref a, v1, v2, v3] [.ref a, w0] h Q := ex_nx (show mx_at 205 60 = some (.aload_n 0, 1) by decide +kernel) rfl
set_option maxRecDepth 20000 in
theorem i205_61 : ex_ X d 205 61 [v0, v1, v2, v3] [.ref a, w0] h Q = (gk_ h a 1 [(12, 0)] = true ∧ ex_ X d 205 64 [v0, v1, v2, v3] [gv_ h a 1, w0] h Q) := R_getf (show mx_at 205 61 = some (.getfield 13, 3) by decide +kernel) (mx_fdo ow205 fd120013)
set_option maxRecDepth 20000 in
theorem i205_64 : ex_ X d 205 64 [v0, v1, v2, .int x] [w0, w1] h Q = ex_ X d 205 65 [v0, v1, v2, .int x] [.int x, w0, w1] h Q := ex_nx (show mx_at 205 64 = some (.iload_n 3, 1) by decide +kernel) rfl
set_option maxRecDepth 20000 in
theorem i205_65 : ex_ X d 205 65 [v0, v1, v2, v3] [w0, w1, w2] h Q = ex_ X d 205 67 [v0, v1, v2, v3] [.int 6, w0, w1, w2] h Q := R_bipush (show mx_at 205 65 = some (.bipush 6, 2) by decide +kernel) (by decide)
set_option maxRecDepth 20000 in
theorem i205_67 : ex_ X (d + 1) 205 67 [v0, v1, v2, v3] [.int x2, .int x1, .ref a0, w0] h Q = ev_ X d 129 [.ref a0, .int x1, .int x2] h (fun r h' => ex_ X (d + 1) 205 70 [v0, v1, v2, v3] (r.toList ++ [w0]) h' Q) := R_stat (show mx_at 205 67 = some (.invokestatic 154, 3) by decide +kernel) (mx_clk ow205 cc12_154) (Nat.le_of_ble_eq_true rfl) rfl rfl (Nat.le_of_ble_eq_true rfl) ml129 (Nat.le_of_ble_eq_true rfl)
set_option maxRecDepth 20000 in
theorem i205_70 : ex_ X d 205 70 [v0, v1, v2, v3] [.int y, .int x] h Q = if ¬ x = y then ex_ X d 205 79 [v0, v1, v2, v3] [] h Q else ex_ X d 205 73 [v0, v1, v2, v3] [] h Q := (R_br (show mx_at 205 70 = some (.if_icmp .ne 9, 3) by decide +kernel) rfl rfl).trans mx_ite
set_option maxRecDepth 20000 in
theorem i205_73 : ex_ X d 205 73 [v0, v1, v2, .int x] [] h Q = (mx_nl v2 = true ∧ ex_ X d 205 76 [v0, v1, v2, .int (x + 1)] [] h Q) := R_iinc (n := 3) (c := 1) (show mx_at 205 73 = some (.iinc 3 1, 3) by decide +kernel) rfl
set_option maxRecDepth 20000 in
theorem i205_76 : ex_ X d 205 76 [v0, v1, v2, v3] [] h Q = ex_ X d 205 36 [v0, v1, v2, v3] [] h Q := R_to (show mx_at 205 76 = some (.goto (-40), 3) by decide +kernel) rfl rfl
set_option maxRecDepth 20000 in
theorem i205_79 : ex_ X d 205 79 [v0, v1, v2, .int x] [] h Q = ex_ X d 205 80 [v0, v1, v2, .int x] [.int x] h Q := ex_nx (show mx_at 205 79 = some (.iload_n 3, 1) by decide +kernel) rfl
set_option maxRecDepth 20000 in
theorem i205_80 : ex_ X d 205 80 [v0, v1, .int x, v3] [w0] h Q = ex_ X d 205 81 [v0, v1, .int x, v3] [.int x, w0] h Q := ex_nx (show mx_at 205 80 = some (.iload_n 2, 1) by decide +kernel) rfl
set_option maxRecDepth 20000 in
theorem i205_81 : ex_ X d 205 81 [v0, v1, v2, v3] [.int y, .int x] h Q = if ¬ x = y then ex_ X d 205 98 [v0, v1, v2, v3] [] h Q else ex_ X d 205 84 [v0, v1, v2, v3] [] h Q := (R_br (show mx_at 205 81 = some (.if_icmp .ne 17, 3) by decide +kernel) rfl rfl).trans mx_ite
set_option maxRecDepth 20000 in
theorem i205_84 : ex_ X d 205 84 [v0, v1, v2, .int x] [] h Q = ex_ X d 205 85 [v0, v1, v2, .int x] [.int x] h Q := ex_nx (show mx_at 205 84 = some (.iload_n 3, 1) by decide +kernel) rfl
set_option maxRecDepth 20000 in
theorem i205_85 : ex_ X d 205 85 [.ref a, v1, v2, v3] [w0] h Q = ex_ X d 205 86 [.ref a, v1, v2, v3] [.ref a, w0] h Q := ex_nx (show mx_at 205 85 = some (.aload_n 0, 1) by decide +kernel) rfl
set_option maxRecDepth 20000 in
theorem i205_86 : ex_ X d 205 86 [v0, v1, v2, v3] [.ref a, w0] h Q = (gk_ h a 0 [(12, 0)] = true ∧ ex_ X d 205 89 [v0, v1, v2, v3] [gv_ h a 0, w0] h Q) := R_getf (show mx_at 205 86 = some (.getfield 7, 3) by decide +kernel) (mx_fdo ow205 fd120007)
set_option maxRecDepth 20000 in
theorem i205_89 : ex_ X d 205 89 [v0, v1, v2, v3] [w0, w1] h Q = ex_ X d 205 90 [v0, v1, v2, v3] [.int 1, w0, w1] h Q := R_iconst (show mx_at 205 89 = some (.iconst 1, 1) by decide +kernel) (by decide)
set_option maxRecDepth 20000 in
theorem i205_90 : ex_ X d 205 90 [v0, v1, v2, v3] [.int i, .ref a, w0] h Q = (ik_ h a i = true ∧ ex_ X d 205 91 [v0, v1, v2, v3] [.int (ia_ h a i), w0] h Q) := R_iald (show mx_at 205 90 = some (.iaload, 1) by decide +kernel)
set_option maxRecDepth 20000 in
theorem i205_91 : ex_ X d 205 91 [v0, v1, v2, v3] [.int y, .int x] h Q = if ¬ x = y then ex_ X d 205 98 [v0, v1, v2, v3] [] h Q else ex_ X d 205 94 [v0, v1, v2, v3] [] h Q := (R_br (show mx_at 205 91 = some (.if_icmp .ne 7, 3) by decide +kernel) rfl rfl).trans mx_ite
set_option maxRecDepth 20000 in
theorem i205_94 : ex_ X d 205 94 [v0, v1, v2, v3] [] h Q = ex_ X d 205 95 [v0, v1, v2, v3] [.int 0] h Q := R_iconst (show mx_at 205 94 = some (.iconst 0, 1) by decide +kernel) (by decide)
set_option maxRecDepth 20000 in
theorem i205_95 : ex_ X d 205 95 [v0, v1, v2, v3] [w0] h Q = ex_ X d 205 101 [v0, v1, v2, v3] [w0] h Q := R_to (show mx_at 205 95 = some (.goto 6, 3) by decide +kernel) rfl rfl
set_option maxRecDepth 20000 in
theorem i205_98 : ex_ X d 205 98 [v0, v1, v2, v3] [] h Q = ex_ X d 205 99 [v0, v1, v2, v3] [.int 1] h Q := R_iconst (show mx_at 205 98 = some (.iconst 1, 1) by decide +kernel) (by decide)
set_option maxRecDepth 20000 in
theorem i205_99 : ex_ X d 205 99 [v0, v1, v2, .int x] [w0] h Q = ex_ X d 205 100 [v0, v1, v2, .int x] [.int x, w0] h Q := ex_nx (show mx_at 205 99 = some (.iload_n 3, 1) by decide +kernel) rfl
set_option maxRecDepth 20000 in
theorem i205_100 : ex_ X d 205 100 [v0, v1, v2, v3] [.int y, .int x] h Q = ex_ X d 205 101 [v0, v1, v2, v3] [.int (x + y)] h Q := ex_nx (show mx_at 205 100 = some (.iadd, 1) by decide +kernel) rfl
set_option maxRecDepth 20000 in
theorem i205_101 : ex_ X d 205 101 [v0, v1, v2, v3] [.int x] h Q = Q (some (.int x)) h := ex_ret (show mx_at 205 101 = some (.ireturn, 1) by decide +kernel) (mx_retI rt205)
theorem i205_e : ev_ X d 205 [.ref a, .int x0] h Q = ex_ X d 205 0 [.ref a, .int x0, .double 0, .double 0] [] h Q := by rw [ev_, ml205]; rfl
-- 206 X12_allWaiting
set_option maxRecDepth 20000 in
theorem i206_0 : ex_ X d 206 0 [v0, v1, v2] [] h Q = ex_ X d 206 1 [v0, v1, v2] [.int 0] h Q := R_iconst (show mx_at 206 0 = some (.iconst 0, 1) by decide +kernel) (by decide)
set_option maxRecDepth 20000 in
theorem i206_1 : ex_ X d 206 1 [v0, v1, v2] [.int x] h Q = (mx_nl v0 = true ∧ ex_ X d 206 2 [v0, .int x, v2] [] h Q) := mx_t1 (R_st (ok := mx_isI) (n := 1) (w := 1) (show mx_at 206 1 = some (.istore_n 1, 1) by decide +kernel) (fun _ _ => rfl) (Nat.le_of_ble_eq_true rfl)) rfl
set_option maxRecDepth 20000 in
theorem i206_2 : ex_ X d 206 2 [v0, v1, v2] [] h Q = ex_ X d 206 3 [v0, v1, v2] [.int 0] h Q := R_iconst (show mx_at 206 2 = some (.iconst 0, 1) by decide +kernel) (by decide)
set_option maxRecDepth 20000 in
theorem i206_3 : ex_ X d 206 3 [v0, v1, v2] [.int x] h Q = (mx_nl v1 = true ∧ ex_ X d 206 4 [v0, v1, .int x] [] h Q) := mx_t1 (R_st (ok := mx_isI) (n := 2) (w := 1) (show mx_at 206 3 = some (.istore_n 2, 1) by decide +kernel) (fun _ _ => rfl) (Nat.le_of_ble_eq_true rfl)) rfl
set_option maxRecDepth 20000 in
theorem i206_4 : ex_ X d 206 4 [v0, v1, .int x] [] h Q = ex_ X d 206 5 [v0, v1, .int x] [.int x] h Q := ex_nx (show mx_at 206 4 = some (.iload_n 2, 1) by decide +kernel) rfl
set_option maxRecDepth 20000 in
theorem i206_5 : ex_ X d 206 5 [.ref a, v1, v2] [w0] h Q = ex_ X d 206 6 [.ref a, v1, v2] [.ref a, w0] h Q := ex_nx (show mx_at 206 5 = some (.aload_n 0, 1) by decide +kernel) rfl
set_option maxRecDepth 20000 in
theorem i206_6 : ex_ X d 206 6 [v0, v1, v2] [.ref a, w0] h Q = (gk_ h a 0 [(12, 0)] = true ∧ ex_ X d 206 9 [v0, v1, v2] [gv_ h a 0, w0] h Q) := R_getf (show mx_at 206 6 = some (.getfield 7, 3) by decide +kernel) (mx_fdo ow206 fd120007)
set_option maxRecDepth 20000 in
theorem i206_9 : ex_ X d 206 9 [v0, v1, v2] [w0, w1] h Q = ex_ X d 206 10 [v0, v1, v2] [.int 2, w0, w1] h Q := R_iconst (show mx_at 206 9 = some (.iconst 2, 1) by decide +kernel) (by decide)
set_option maxRecDepth 20000 in
theorem i206_10 : ex_ X d 206 10 [v0, v1, v2] [.int i, .ref a, w0] h Q = (ik_ h a i = true ∧ ex_ X d 206 11 [v0, v1, v2] [.int (ia_ h a i), w0] h Q) := R_iald (show mx_at 206 10 = some (.iaload, 1) by decide +kernel)
set_option maxRecDepth 20000 in
theorem i206_11 : ex_ X d 206 11 [v0, v1, v2] [.int y, .int x] h Q = if y ≤ x then ex_ X d 206 32 [v0, v1, v2] [] h Q else ex_ X d 206 14 [v0, v1, v2] [] h Q := (R_br (show mx_at 206 11 = some (.if_icmp .ge 21, 3) by decide +kernel) rfl rfl).trans mx_ite
set_option maxRecDepth 20000 in
theorem i206_14 : ex_ X d 206 14 [v0, .int x, v2] [] h Q = ex_ X d 206 15 [v0, .int x, v2] [.int x] h Q := ex_nx (show mx_at 206 14 = some (.iload_n 1, 1) by decide +kernel) rfl
set_option maxRecDepth 20000 in
theorem i206_15 : ex_ X d 206 15 [.ref a, v1, v2] [w0] h Q = ex_ X d 206 16 [.ref a, v1, v2] [.ref a, w0] h Q := ex_nx (show mx_at 206 15 = some (.aload_n 0, 1) by decide +kernel) rfl
set_option maxRecDepth 20000 in
theorem i206_16 : ex_ X d 206 16 [v0, v1, v2] [.ref a, w0] h Q = (gk_ h a 0 [(12, 0)] = true ∧ ex_ X d 206 19 [v0, v1, v2] [gv_ h a 0, w0] h Q) := R_getf (show mx_at 206 16 = some (.getfield 7, 3) by decide +kernel) (mx_fdo ow206 fd120007)
set_option maxRecDepth 20000 in
theorem i206_19 : ex_ X d 206 19 [v0, v1, .int x] [w0, w1] h Q = ex_ X d 206 20 [v0, v1, .int x] [.int x, w0, w1] h Q := ex_nx (show mx_at 206 19 = some (.iload_n 2, 1) by decide +kernel) rfl
set_option maxRecDepth 20000 in
theorem i206_20 : ex_ X d 206 20 [v0, v1, v2] [w0, w1, w2] h Q = ex_ X d 206 21 [v0, v1, v2] [.int 3, w0, w1, w2] h Q := R_iconst (show mx_at 206 20 = some (.iconst 3, 1) by decide +kernel) (by decide)
set_option maxRecDepth 20000 in
theorem i206_21 : ex_ X (d + 1) 206 21 [v0, v1, v2] [.int x2, .int x1, .ref a0, w0] h Q = ev_ X d 130 [.ref a0, .int x1, .int x2] h (fun r h' => ex_ X (d + 1) 206 24 [v0, v1, v2] (r.toList ++ [w0]) h' Q) := R_stat (show mx_at 206 21 = some (.invokestatic 202, 3) by decide +kernel) (mx_clk ow206 cc12_202) (Nat.le_of_ble_eq_true rfl) rfl rfl (Nat.le_of_ble_eq_true rfl) ml130 (Nat.le_of_ble_eq_true rfl)
set_option maxRecDepth 20000 in
theorem i206_24 : ex_ X d 206 24 [v0, v1, v2] [.int y, .int x] h Q = ex_ X d 206 25 [v0, v1, v2] [.int (x + y)] h Q := ex_nx (show mx_at 206 24 = some (.iadd, 1) by decide +kernel) rfl
set_option maxRecDepth 20000 in
theorem i206_25 : ex_ X d 206 25 [v0, v1, v2] [.int x] h Q = (mx_nl v0 = true ∧ ex_ X d 206 26 [v0, .int x, v2] [] h Q) := mx_t1 (R_st (ok := mx_isI) (n := 1) (w := 1) (show mx_at 206 25 = some (.istore_n 1, 1) by decide +kernel) (fun _ _ => rfl) (Nat.le_of_ble_eq_true rfl)) rfl
set_option maxRecDepth 20000 in
theorem i206_26 : ex_ X d 206 26 [v0, v1, .int x] [] h Q = (mx_nl v1 = true ∧ ex_ X d 206 29 [v0, v1, .int (x + 1)] [] h Q) := R_iinc (n := 2) (c := 1) (show mx_at 206 26 = some (.iinc 2 1, 3) by decide +kernel) rfl
set_option maxRecDepth 20000 in
theorem i206_29 : ex_ X d 206 29 [v0, v1, v2] [] h Q = ex_ X d 206 4 [v0, v1, v2] [] h Q := R_to (show mx_at 206 29 = some (.goto (-25), 3) by decide +kernel) rfl rfl
set_option maxRecDepth 20000 in
theorem i206_32 : ex_ X d 206 32 [v0, .int x, v2] [] h Q = ex_ X d 206 33 [v0, .int x, v2] [.int x] h Q := ex_nx (show mx_at 206 32 = some (.iload_n 1, 1) by decide +kernel) rfl
set_option maxRecDepth 20000 in
theorem i206_33 : ex_ X d 206 33 [v0, v1, v2] [.int x] h Q = Q (some (.int x)) h := ex_ret (show mx_at 206 33 = some (.ireturn, 1) by decide +kernel) (mx_retI rt206)
theorem i206_e : ev_ X d 206 [.ref a] h Q = ex_ X d 206 0 [.ref a, .double 0, .double 0] [] h Q := by rw [ev_, ml206]; rfl
-- 207 X12_count
set_option maxRecDepth 20000 in
theorem i207_0 : ex_ X d 207 0 [v0, .int x] [] h Q = ex_ X d 207 1 [v0, .int x] [.int x] h Q := ex_nx (show mx_at 207 0 = some (.iload_n 1, 1) by decide +kernel) rfl
set_option maxRecDepth 20000 in
theorem i207_1_0 : ex_ X d 207 1 [v0, v1] [.int 0] h Q = ex_ X d 207 52 [v0, v1] [] h Q := R_tsw (off := 51) (show mx_at 207 1 = some (.tableswitch 113 0 8 #[51, 58, 65, 72, 79, 84, 92, 100, 105], 51) by decide +kernel) (by decide) rfl
set_option maxRecDepth 20000 in
theorem i207_1_1 : ex_ X d 207 1 [v0, v1] [.int 1] h Q = ex_ X d 207 59 [v0, v1] [] h Q := R_tsw (off := 58) (show mx_at 207 1 = some (.tableswitch 113 0 8 #[51, 58, 65, 72, 79, 84, 92, 100, 105], 51) by decide +kernel) (by decide) rfl
set_option maxRecDepth 20000 in
theorem i207_1_2 : ex_ X d 207 1 [v0, v1] [.int 2] h Q = ex_ X d 207 66 [v0, v1] [] h Q := R_tsw (off := 65) (show mx_at 207 1 = some (.tableswitch 113 0 8 #[51, 58, 65, 72, 79, 84, 92, 100, 105], 51) by decide +kernel) (by decide) rfl
set_option maxRecDepth 20000 in
theorem i207_1_3 : ex_ X d 207 1 [v0, v1] [.int 3] h Q = ex_ X d 207 73 [v0, v1] [] h Q := R_tsw (off := 72) (show mx_at 207 1 = some (.tableswitch 113 0 8 #[51, 58, 65, 72, 79, 84, 92, 100, 105], 51) by decide +kernel) (by decide) rfl
set_option maxRecDepth 20000 in
theorem i207_1_4 : ex_ X d 207 1 [v0, v1] [.int 4] h Q = ex_ X d 207 80 [v0, v1] [] h Q := R_tsw (off := 79) (show mx_at 207 1 = some (.tableswitch 113 0 8 #[51, 58, 65, 72, 79, 84, 92, 100, 105], 51) by decide +kernel) (by decide) rfl
set_option maxRecDepth 20000 in
theorem i207_1_5 : ex_ X d 207 1 [v0, v1] [.int 5] h Q = ex_ X d 207 85 [v0, v1] [] h Q := R_tsw (off := 84) (show mx_at 207 1 = some (.tableswitch 113 0 8 #[51, 58, 65, 72, 79, 84, 92, 100, 105], 51) by decide +kernel) (by decide) rfl
set_option maxRecDepth 20000 in
theorem i207_1_6 : ex_ X d 207 1 [v0, v1] [.int 6] h Q = ex_ X d 207 93 [v0, v1] [] h Q := R_tsw (off := 92) (show mx_at 207 1 = some (.tableswitch 113 0 8 #[51, 58, 65, 72, 79, 84, 92, 100, 105], 51) by decide +kernel) (by decide) rfl
set_option maxRecDepth 20000 in
theorem i207_1_7 : ex_ X d 207 1 [v0, v1] [.int 7] h Q = ex_ X d 207 101 [v0, v1] [] h Q := R_tsw (off := 100) (show mx_at 207 1 = some (.tableswitch 113 0 8 #[51, 58, 65, 72, 79, 84, 92, 100, 105], 51) by decide +kernel) (by decide) rfl
set_option maxRecDepth 20000 in
theorem i207_1_8 : ex_ X d 207 1 [v0, v1] [.int 8] h Q = ex_ X d 207 106 [v0, v1] [] h Q := R_tsw (off := 105) (show mx_at 207 1 = some (.tableswitch 113 0 8 #[51, 58, 65, 72, 79, 84, 92, 100, 105], 51) by decide +kernel) (by decide) rfl
set_option maxRecDepth 20000 in
theorem i207_1_d (hx : x.toInt < 0 ∨ 8 < x.toInt) : ex_ X d 207 1 [v0, v1] [.int x] h Q = ex_ X d 207 114 [v0, v1] [] h Q := R_tsw (off := 113) (show mx_at 207 1 = some (.tableswitch 113 0 8 #[51, 58, 65, 72, 79, 84, 92, 100, 105], 51) by decide +kernel) (if_pos hx) rfl
set_option maxRecDepth 20000 in
theorem i207_52 : ex_ X d 207 52 [.ref a, v1] [] h Q = ex_ X d 207 53 [.ref a, v1] [.ref a] h Q := ex_nx (show mx_at 207 52 = some (.aload_n 0, 1) by decide +kernel) rfl
set_option maxRecDepth 20000 in
theorem i207_53 : ex_ X d 207 53 [v0, v1] [.ref a] h Q = (gk_ h a 0 [(12, 0)] = true ∧ ex_ X d 207 56 [v0, v1] [gv_ h a 0] h Q) := R_getf (show mx_at 207 53 = some (.getfield 7, 3) by decide +kernel) (mx_fdo ow207 fd120007)
set_option maxRecDepth 20000 in
theorem i207_56 : ex_ X d 207 56 [v0, v1] [w0] h Q = ex_ X d 207 57 [v0, v1] [.int 0, w0] h Q := R_iconst (show mx_at 207 56 = some (.iconst 0, 1) by decide +kernel) (by decide)
set_option maxRecDepth 20000 in
theorem i207_57 : ex_ X d 207 57 [v0, v1] [.int i, .ref a] h Q = (ik_ h a i = true ∧ ex_ X d 207 58 [v0, v1] [.int (ia_ h a i)] h Q) := R_iald (show mx_at 207 57 = some (.iaload, 1) by decide +kernel)
set_option maxRecDepth 20000 in
theorem i207_58 : ex_ X d 207 58 [v0, v1] [.int x] h Q = Q (some (.int x)) h := ex_ret (show mx_at 207 58 = some (.ireturn, 1) by decide +kernel) (mx_retI rt207)
set_option maxRecDepth 20000 in
theorem i207_59 : ex_ X d 207 59 [.ref a, v1] [] h Q = ex_ X d 207 60 [.ref a, v1] [.ref a] h Q := ex_nx (show mx_at 207 59 = some (.aload_n 0, 1) by decide +kernel) rfl
set_option maxRecDepth 20000 in
theorem i207_60 : ex_ X d 207 60 [v0, v1] [.ref a] h Q = (gk_ h a 0 [(12, 0)] = true ∧ ex_ X d 207 63 [v0, v1] [gv_ h a 0] h Q) := R_getf (show mx_at 207 60 = some (.getfield 7, 3) by decide +kernel) (mx_fdo ow207 fd120007)
set_option maxRecDepth 20000 in
theorem i207_63 : ex_ X d 207 63 [v0, v1] [w0] h Q = ex_ X d 207 64 [v0, v1] [.int 1, w0] h Q := R_iconst (show mx_at 207 63 = some (.iconst 1, 1) by decide +kernel) (by decide)
set_option maxRecDepth 20000 in
theorem i207_64 : ex_ X d 207 64 [v0, v1] [.int i, .ref a] h Q = (ik_ h a i = true ∧ ex_ X d 207 65 [v0, v1] [.int (ia_ h a i)] h Q) := R_iald (show mx_at 207 64 = some (.iaload, 1) by decide +kernel)
set_option maxRecDepth 20000 in
theorem i207_65 : ex_ X d 207 65 [v0, v1] [.int x] h Q = Q (some (.int x)) h := ex_ret (show mx_at 207 65 = some (.ireturn, 1) by decide +kernel) (mx_retI rt207)
set_option maxRecDepth 20000 in
theorem i207_66 : ex_ X d 207 66 [.ref a, v1] [] h Q = ex_ X d 207 67 [.ref a, v1] [.ref a] h Q := ex_nx (show mx_at 207 66 = some (.aload_n 0, 1) by decide +kernel) rfl
set_option maxRecDepth 20000 in
theorem i207_67 : ex_ X d 207 67 [v0, v1] [.ref a] h Q = (gk_ h a 0 [(12, 0)] = true ∧ ex_ X d 207 70 [v0, v1] [gv_ h a 0] h Q) := R_getf (show mx_at 207 67 = some (.getfield 7, 3) by decide +kernel) (mx_fdo ow207 fd120007)
set_option maxRecDepth 20000 in
theorem i207_70 : ex_ X d 207 70 [v0, v1] [w0] h Q = ex_ X d 207 71 [v0, v1] [.int 2, w0] h Q := R_iconst (show mx_at 207 70 = some (.iconst 2, 1) by decide +kernel) (by decide)
set_option maxRecDepth 20000 in
theorem i207_71 : ex_ X d 207 71 [v0, v1] [.int i, .ref a] h Q = (ik_ h a i = true ∧ ex_ X d 207 72 [v0, v1] [.int (ia_ h a i)] h Q) := R_iald (show mx_at 207 71 = some (.iaload, 1) by decide +kernel)
set_option maxRecDepth 20000 in
theorem i207_72 : ex_ X d 207 72 [v0, v1] [.int x] h Q = Q (some (.int x)) h := ex_ret (show mx_at 207 72 = some (.ireturn, 1) by decide +kernel) (mx_retI rt207)
set_option maxRecDepth 20000 in
theorem i207_73 : ex_ X d 207 73 [.ref a, v1] [] h Q = ex_ X d 207 74 [.ref a, v1] [.ref a] h Q := ex_nx (show mx_at 207 73 = some (.aload_n 0, 1) by decide +kernel) rfl
set_option maxRecDepth 20000 in
theorem i207_74 : ex_ X d 207 74 [v0, v1] [.ref a] h Q = (gk_ h a 0 [(12, 0)] = true ∧ ex_ X d 207 77 [v0, v1] [gv_ h a 0] h Q) := R_getf (show mx_at 207 74 = some (.getfield 7, 3) by decide +kernel) (mx_fdo ow207 fd120007)
set_option maxRecDepth 20000 in
theorem i207_77 : ex_ X d 207 77 [v0, v1] [w0] h Q = ex_ X d 207 78 [v0, v1] [.int 3, w0] h Q := R_iconst (show mx_at 207 77 = some (.iconst 3, 1) by decide +kernel) (by decide)
set_option maxRecDepth 20000 in
theorem i207_78 : ex_ X d 207 78 [v0, v1] [.int i, .ref a] h Q = (ik_ h a i = true ∧ ex_ X d 207 79 [v0, v1] [.int (ia_ h a i)] h Q) := R_iald (show mx_at 207 78 = some (.iaload, 1) by decide +kernel)
set_option maxRecDepth 20000 in
theorem i207_79 : ex_ X d 207 79 [v0, v1] [.int x] h Q = Q (some (.int x)) h := ex_ret (show mx_at 207 79 = some (.ireturn, 1) by decide +kernel) (mx_retI rt207)
set_option maxRecDepth 20000 in
theorem i207_80 : ex_ X d 207 80 [.ref a, v1] [] h Q = ex_ X d 207 81 [.ref a, v1] [.ref a] h Q := ex_nx (show mx_at 207 80 = some (.aload_n 0, 1) by decide +kernel) rfl
set_option maxRecDepth 20000 in
theorem i207_81 (hc : co_ h a = some 12) : ex_ X (d + 1) 207 81 [v0, v1] [.ref a] h Q = ev_ X d 206 [.ref a] h (fun r h' => ex_ X (d + 1) 207 84 [v0, v1] (r.toList ++ []) h' Q) := R_vir (show mx_at 207 81 = some (.invokevirtual 291, 3) by decide +kernel) (mx_clk ow207 cc12_291) (Nat.le_of_ble_eq_true rfl) rfl rfl hc rfl (Nat.le_of_ble_eq_true rfl) (Nat.le_of_ble_eq_true rfl) (by rw [ml206]; exact Nat.le_of_ble_eq_true rfl)
set_option maxRecDepth 20000 in
theorem i207_84 : ex_ X d 207 84 [v0, v1] [.int x] h Q = Q (some (.int x)) h := ex_ret (show mx_at 207 84 = some (.ireturn, 1) by decide +kernel) (mx_retI rt207)
set_option maxRecDepth 20000 in
theorem i207_85 : ex_ X d 207 85 [.ref a, v1] [] h Q = ex_ X d 207 86 [.ref a, v1] [.ref a] h Q := ex_nx (show mx_at 207 85 = some (.aload_n 0, 1) by decide +kernel) rfl
set_option maxRecDepth 20000 in
theorem i207_86 : ex_ X d 207 86 [v0, v1] [.ref a] h Q = (gk_ h a 0 [(12, 0)] = true ∧ ex_ X d 207 89 [v0, v1] [gv_ h a 0] h Q) := R_getf (show mx_at 207 86 = some (.getfield 7, 3) by decide +kernel) (mx_fdo ow207 fd120007)
set_option maxRecDepth 20000 in
theorem i207_89 : ex_ X d 207 89 [v0, v1] [w0] h Q = ex_ X d 207 91 [v0, v1] [.int 9, w0] h Q := R_bipush (show mx_at 207 89 = some (.bipush 9, 2) by decide +kernel) (by decide)
set_option maxRecDepth 20000 in
theorem i207_91 : ex_ X d 207 91 [v0, v1] [.int i, .ref a] h Q = (ik_ h a i = true ∧ ex_ X d 207 92 [v0, v1] [.int (ia_ h a i)] h Q) := R_iald (show mx_at 207 91 = some (.iaload, 1) by decide +kernel)
set_option maxRecDepth 20000 in
theorem i207_92 : ex_ X d 207 92 [v0, v1] [.int x] h Q = Q (some (.int x)) h := ex_ret (show mx_at 207 92 = some (.ireturn, 1) by decide +kernel) (mx_retI rt207)
set_option maxRecDepth 20000 in
theorem i207_93 : ex_ X d 207 93 [.ref a, v1] [] h Q = ex_ X d 207 94 [.ref a, v1] [.ref a] h Q := ex_nx (show mx_at 207 93 = some (.aload_n 0, 1) by decide +kernel) rfl
set_option maxRecDepth 20000 in
theorem i207_94 : ex_ X d 207 94 [v0, v1] [.ref a] h Q = (gk_ h a 0 [(12, 0)] = true ∧ ex_ X d 207 97 [v0, v1] [gv_ h a 0] h Q) := R_getf (show mx_at 207 94 = some (.getfield 7, 3) by decide +kernel) (mx_fdo ow207 fd120007)
set_option maxRecDepth 20000 in
theorem i207_97 : ex_ X d 207 97 [v0, v1] [w0] h Q = ex_ X d 207 99 [v0, v1] [.int 10, w0] h Q := R_bipush (show mx_at 207 97 = some (.bipush 10, 2) by decide +kernel) (by decide)
set_option maxRecDepth 20000 in
theorem i207_99 : ex_ X d 207 99 [v0, v1] [.int i, .ref a] h Q = (ik_ h a i = true ∧ ex_ X d 207 100 [v0, v1] [.int (ia_ h a i)] h Q) := R_iald (show mx_at 207 99 = some (.iaload, 1) by decide +kernel)
set_option maxRecDepth 20000 in
theorem i207_100 : ex_ X d 207 100 [v0, v1] [.int x] h Q = Q (some (.int x)) h := ex_ret (show mx_at 207 100 = some (.ireturn, 1) by decide +kernel) (mx_retI rt207)
set_option maxRecDepth 20000 in
theorem i207_101 : ex_ X d 207 101 [.ref a, v1] [] h Q = ex_ X d 207 102 [.ref a, v1] [.ref a] h Q := ex_nx (show mx_at 207 101 = some (.aload_n 0, 1) by decide +kernel) rfl
set_option maxRecDepth 20000 in
theorem i207_102 : ex_ X d 207 102 [v0, v1] [.ref a] h Q = (gk_ h a 18 [(12, 0)] = true ∧ ex_ X d 207 105 [v0, v1] [gv_ h a 18] h Q) := R_getf (show mx_at 207 102 = some (.getfield 261, 3) by decide +kernel) (mx_fdo ow207 fd120261)
set_option maxRecDepth 20000 in
theorem i207_105 : ex_ X d 207 105 [v0, v1] [.int x] h Q = Q (some (.int x)) h := ex_ret (show mx_at 207 105 = some (.ireturn, 1) by decide +kernel) (mx_retI rt207)
set_option maxRecDepth 20000 in
theorem i207_106 : ex_ X d 207 106 [.ref a, v1] [] h Q = ex_ X d 207 107 [.ref a, v1] [.ref a] h Q := ex_nx (show mx_at 207 106 = some (.aload_n 0, 1) by decide +kernel) rfl
set_option maxRecDepth 20000 in
theorem i207_107 : ex_ X d 207 107 [v0, v1] [.ref a] h Q = (gk_ h a 0 [(12, 0)] = true ∧ ex_ X d 207 110 [v0, v1] [gv_ h a 0] h Q) := R_getf (show mx_at 207 107 = some (.getfield 7, 3) by decide +kernel) (mx_fdo ow207 fd120007)
set_option maxRecDepth 20000 in
theorem i207_110 : ex_ X d 207 110 [v0, v1] [w0] h Q = ex_ X d 207 112 [v0, v1] [.int 8, w0] h Q := R_bipush (show mx_at 207 110 = some (.bipush 8, 2) by decide +kernel) (by decide)
set_option maxRecDepth 20000 in
theorem i207_112 : ex_ X d 207 112 [v0, v1] [.int i, .ref a] h Q = (ik_ h a i = true ∧ ex_ X d 207 113 [v0, v1] [.int (ia_ h a i)] h Q) := R_iald (show mx_at 207 112 = some (.iaload, 1) by decide +kernel)
set_option maxRecDepth 20000 in
theorem i207_113 : ex_ X d 207 113 [v0, v1] [.int x] h Q = Q (some (.int x)) h := ex_ret (show mx_at 207 113 = some (.ireturn, 1) by decide +kernel) (mx_retI rt207)
set_option maxRecDepth 20000 in
theorem i207_114 : ex_ X d 207 114 [.ref a, v1] [] h Q = ex_ X d 207 115 [.ref a, v1] [.ref a] h Q := ex_nx (show mx_at 207 114 = some (.aload_n 0, 1) by decide +kernel) rfl
set_option maxRecDepth 20000 in
theorem i207_115 : ex_ X d 207 115 [v0, v1] [w0] h Q = ex_ X d 207 116 [v0, v1] [.int 1, w0] h Q := R_iconst (show mx_at 207 115 = some (.iconst 1, 1) by decide +kernel) (by decide)
set_option maxRecDepth 20000 in
theorem i207_116 (hc : co_ h a = some 12) : ex_ X (d + 1) 207 116 [v0, v1] [.int x0, .ref a] h Q = ev_ X d 123 [.ref a, .int x0] h (fun r h' => ex_ X (d + 1) 207 119 [v0, v1] (r.toList ++ []) h' Q) := R_vir (show mx_at 207 116 = some (.invokevirtual 131, 3) by decide +kernel) (mx_clk ow207 cc12_131) (Nat.le_of_ble_eq_true rfl) rfl rfl hc rfl (Nat.le_of_ble_eq_true rfl) (Nat.le_of_ble_eq_true rfl) (by rw [ml123]; exact Nat.le_of_ble_eq_true rfl)
set_option maxRecDepth 20000 in
theorem i207_119 : ex_ X d 207 119 [v0, v1] [.int x] h Q = Q (some (.int x)) h := ex_ret (show mx_at 207 119 = some (.ireturn, 1) by decide +kernel) (mx_retI rt207)
theorem i207_e : ev_ X d 207 [.ref a, .int x0] h Q = ex_ X d 207 0 [.ref a, .int x0] [] h Q := by rw [ev_, ml207]; rfl
-- 208 X12_told
set_option maxRecDepth 20000 in
theorem i208_0 : ex_ X d 208 0 [v0, .int x] [] h Q = ex_ X d 208 1 [v0, .int x] [.int x] h Q := ex_nx (show mx_at 208 0 = some (.iload_n 1, 1) by decide +kernel) rfl
set_option maxRecDepth 20000 in
theorem i208_1 : ex_ X d 208 1 [v0, v1] [.int x] h Q = ex_ X d 208 2 [v0, v1] [.long x.toInt64] h Q := ex_nx (show mx_at 208 1 = some (.i2l, 1) by decide +kernel) rfl
set_option maxRecDepth 20000 in
theorem i208_2 : ex_ X d 208 2 [v0, v1] [w0] h Q = ex_ X d 208 3 [v0, v1] [.long 1, w0] h Q := ex_nx (show mx_at 208 2 = some (.lconst 1, 1) by decide +kernel) rfl
set_option maxRecDepth 20000 in
theorem i208_3 : ex_ X d 208 3 [v0, v1] [w0, w1] h Q = ex_ X d 208 6 [v0, v1] [.long 5, w0, w1] h Q := R_ldc2 (show mx_at 208 3 = some (.ldc2_w 294, 3) by decide +kernel) ow208 kl120294
set_option maxRecDepth 20000 in
theorem i208_6 : ex_ X (d + 1) 208 6 [v0, v1] [.long j2, .long j1, .long j0] h Q = ev_ X d 124 [.long j0, .long j1, .long j2] h (fun r h' => ex_ X (d + 1) 208 9 [v0, v1] (r.toList ++ []) h' Q) := R_stat (show mx_at 208 6 = some (.invokestatic 54, 3) by decide +kernel) (mx_clk ow208 cc12_54) (Nat.le_of_ble_eq_true rfl) rfl rfl (Nat.le_of_ble_eq_true rfl) ml124 (Nat.le_of_ble_eq_true rfl)
set_option maxRecDepth 20000 in
theorem i208_9 : ex_ X d 208 9 [v0, v1] [.int x] h Q = if x = 0 then ex_ X d 208 21 [v0, v1] [] h Q else ex_ X d 208 12 [v0, v1] [] h Q := (R_br (show mx_at 208 9 = some (.ifCond .eq 12, 3) by decide +kernel) rfl rfl).trans mx_ite
set_option maxRecDepth 20000 in
theorem i208_12 : ex_ X d 208 12 [.ref a, v1] [] h Q = ex_ X d 208 13 [.ref a, v1] [.ref a] h Q := ex_nx (show mx_at 208 12 = some (.aload_n 0, 1) by decide +kernel) rfl
set_option maxRecDepth 20000 in
theorem i208_13 : ex_ X d 208 13 [v0, v1] [.ref a] h Q = (gk_ h a 4 [(12, 0)] = true ∧ ex_ X d 208 16 [v0, v1] [gv_ h a 4] h Q) := R_getf (show mx_at 208 13 = some (.getfield 19, 3) by decide +kernel) (mx_fdo ow208 fd120019)
set_option maxRecDepth 20000 in
theorem i208_16 : ex_ X d 208 16 [v0, .int x] [w0] h Q = ex_ X d 208 17 [v0, .int x] [.int x, w0] h Q := ex_nx (show mx_at 208 16 = some (.iload_n 1, 1) by decide +kernel) rfl
set_option maxRecDepth 20000 in
theorem i208_17 : ex_ X d 208 17 [v0, v1] [.int i, .ref a] h Q = (ik_ h a i = true ∧ ex_ X d 208 18 [v0, v1] [.int (ia_ h a i)] h Q) := R_iald (show mx_at 208 17 = some (.iaload, 1) by decide +kernel)
set_option maxRecDepth 20000 in
theorem i208_18 : ex_ X d 208 18 [v0, v1] [w0] h Q = ex_ X d 208 26 [v0, v1] [w0] h Q := R_to (show mx_at 208 18 = some (.goto 8, 3) by decide +kernel) rfl rfl
set_option maxRecDepth 20000 in
theorem i208_21 : ex_ X d 208 21 [.ref a, v1] [] h Q = ex_ X d 208 22 [.ref a, v1] [.ref a] h Q := ex_nx (show mx_at 208 21 = some (.aload_n 0, 1) by decide +kernel) rfl
set_option maxRecDepth 20000 in
theorem i208_22 : ex_ X d 208 22 [v0, v1] [w0] h Q = ex_ X d 208 23 [v0, v1] [.int 1, w0] h Q := R_iconst (show mx_at 208 22 = some (.iconst 1, 1) by decide +kernel) (by decide)
set_option maxRecDepth 20000 in
theorem i208_23 (hc : co_ h a = some 12) : ex_ X (d + 1) 208 23 [v0, v1] [.int x0, .ref a] h Q = ev_ X d 123 [.ref a, .int x0] h (fun r h' => ex_ X (d + 1) 208 26 [v0, v1] (r.toList ++ []) h' Q) := R_vir (show mx_at 208 23 = some (.invokevirtual 131, 3) by decide +kernel) (mx_clk ow208 cc12_131) (Nat.le_of_ble_eq_true rfl) rfl rfl hc rfl (Nat.le_of_ble_eq_true rfl) (Nat.le_of_ble_eq_true rfl) (by rw [ml123]; exact Nat.le_of_ble_eq_true rfl)
set_option maxRecDepth 20000 in
theorem i208_26 : ex_ X d 208 26 [v0, v1] [.int x] h Q = Q (some (.int x)) h := ex_ret (show mx_at 208 26 = some (.ireturn, 1) by decide +kernel) (mx_retI rt208)
theorem i208_e : ev_ X d 208 [.ref a, .int x0] h Q = ex_ X d 208 0 [.ref a, .int x0] [] h Q := by rw [ev_, ml208]; rfl
end MXI
