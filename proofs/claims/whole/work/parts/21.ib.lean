section MXI
variable {X : MXX} {d : Nat} {h : MXH} {Q : MXP} {v0 v1 v2 v3 v4 v5 v6 v7 v8 v9 v10 v11 v12 v13 v14 v15 v16 v17 v18 v19 w w0 w1 w2 w3 w4 w5 w6 w7 w8 : Value} {x y z i x0 x1 x2 x3 x4 x5 x6 : Int32} {j0 j1 j2 j3 jx jy : Int64} {a b a0 a1 a2 a3 a4 a5 a6 : Nat}

-- 69 X11_init
set_option maxRecDepth 20000 in
theorem i69_0 : ex_ X d 69 0 [.ref a, v1] [] h Q = ex_ X d 69 1 [.ref a, v1] [.ref a] h Q := ex_nx (show mx_at 69 0 = some (.aload_n 0, 1) by decide +kernel) rfl
set_option maxRecDepth 20000 in
theorem i69_1 : ex_ X (d + 1) 69 1 [v0, v1] [.ref a] h Q = ex_ X (d + 1) 69 4 [v0, v1] [] h Q := R_obj (show mx_at 69 1 = some (.invokespecial 3, 3) by decide +kernel) (mx_clk ow69 cc11_3) (Nat.le_of_ble_eq_true rfl)
set_option maxRecDepth 20000 in
theorem i69_4 : ex_ X d 69 4 [.ref a, v1] [] h Q = ex_ X d 69 5 [.ref a, v1] [.ref a] h Q := ex_nx (show mx_at 69 4 = some (.aload_n 0, 1) by decide +kernel) rfl
set_option maxRecDepth 20000 in
theorem i69_5 : ex_ X d 69 5 [v0, v1] [w0] h Q = ex_ X d 69 8 [v0, v1] [.ref h.length, w0] (h ++ [.inr (3, [.int 0, .int 0, .int 0, .int 0, .null, .null, .null, .int 0, .null, .null, .null, .null, .int 0, .null, .null, .null, .null])]) Q := R_new (show mx_at 69 5 = some (.new 9, 3) by decide +kernel) (mx_lko ow69 cl110009) rfl
set_option maxRecDepth 20000 in
theorem i69_8 : ex_ X d 69 8 [v0, v1] [.ref a, w0] h Q = ex_ X d 69 9 [v0, v1] [.ref a, .ref a, w0] h Q := ex_nx (show mx_at 69 8 = some (.dup, 1) by decide +kernel) rfl
set_option maxRecDepth 20000 in
theorem i69_9 : ex_ X (d + 1) 69 9 [v0, v1] [.ref a, w0, w1] h Q = ev_ X d 10 [.ref a] h (fun r h' => ex_ X (d + 1) 69 12 [v0, v1] (r.toList ++ [w0, w1]) h' Q) := R_ctor (show mx_at 69 9 = some (.invokespecial 11, 3) by decide +kernel) (mx_clk ow69 cc11_11) (by decide) (Nat.le_of_ble_eq_true rfl) rfl rfl (Nat.le_of_ble_eq_true rfl) ml10 (Nat.le_of_ble_eq_true rfl)
set_option maxRecDepth 20000 in
theorem i69_12 : ex_ X d 69 12 [v0, v1] [w, .ref a] h Q = (pk_ 69 h a 0 w [(11, 0)] = true ∧ ex_ X d 69 15 [v0, v1] [] (pf_ h a 0 w) Q) := R_putf (show mx_at 69 12 = some (.putfield 12, 3) by decide +kernel) (mx_fdo ow69 fd110012)
set_option maxRecDepth 20000 in
theorem i69_15 : ex_ X d 69 15 [.ref a, v1] [] h Q = ex_ X d 69 16 [.ref a, v1] [.ref a] h Q := ex_nx (show mx_at 69 15 = some (.aload_n 0, 1) by decide +kernel) rfl
set_option maxRecDepth 20000 in
theorem i69_16 : ex_ X d 69 16 [v0, v1] [w0] h Q = ex_ X d 69 19 [v0, v1] [.ref h.length, w0] (h ++ [.inr (5, [.null, .int 0])]) Q := R_new (show mx_at 69 16 = some (.new 16, 3) by decide +kernel) (mx_lko ow69 cl110016) rfl
set_option maxRecDepth 20000 in
theorem i69_19 : ex_ X d 69 19 [v0, v1] [.ref a, w0] h Q = ex_ X d 69 20 [v0, v1] [.ref a, .ref a, w0] h Q := ex_nx (show mx_at 69 19 = some (.dup, 1) by decide +kernel) rfl
set_option maxRecDepth 20000 in
theorem i69_20 : ex_ X d 69 20 [v0, v1] [w0, w1, w2] h Q = ex_ X d 69 22 [v0, v1] [.int 50, w0, w1, w2] h Q := R_bipush (show mx_at 69 20 = some (.bipush 50, 2) by decide +kernel) (by decide)
set_option maxRecDepth 20000 in
theorem i69_22 : ex_ X (d + 1) 69 22 [v0, v1] [.int x0, .ref a, w0, w1] h Q = ev_ X d 35 [.ref a, .int x0] h (fun r h' => ex_ X (d + 1) 69 25 [v0, v1] (r.toList ++ [w0, w1]) h' Q) := R_ctor (show mx_at 69 22 = some (.invokespecial 18, 3) by decide +kernel) (mx_clk ow69 cc11_18) (by decide) (Nat.le_of_ble_eq_true rfl) rfl rfl (Nat.le_of_ble_eq_true rfl) ml35 (Nat.le_of_ble_eq_true rfl)
set_option maxRecDepth 20000 in
theorem i69_25 : ex_ X d 69 25 [v0, v1] [w, .ref a] h Q = (pk_ 69 h a 1 w [(11, 0)] = true ∧ ex_ X d 69 28 [v0, v1] [] (pf_ h a 1 w) Q) := R_putf (show mx_at 69 25 = some (.putfield 21, 3) by decide +kernel) (mx_fdo ow69 fd110021)
set_option maxRecDepth 20000 in
theorem i69_28 : ex_ X d 69 28 [.ref a, v1] [] h Q = ex_ X d 69 29 [.ref a, v1] [.ref a] h Q := ex_nx (show mx_at 69 28 = some (.aload_n 0, 1) by decide +kernel) rfl
set_option maxRecDepth 20000 in
theorem i69_29 : ex_ X d 69 29 [v0, v1] [w0] h Q = ex_ X d 69 32 [v0, v1] [.ref h.length, w0] (h ++ [.inr (5, [.null, .int 0])]) Q := R_new (show mx_at 69 29 = some (.new 16, 3) by decide +kernel) (mx_lko ow69 cl110016) rfl
set_option maxRecDepth 20000 in
theorem i69_32 : ex_ X d 69 32 [v0, v1] [.ref a, w0] h Q = ex_ X d 69 33 [v0, v1] [.ref a, .ref a, w0] h Q := ex_nx (show mx_at 69 32 = some (.dup, 1) by decide +kernel) rfl
set_option maxRecDepth 20000 in
theorem i69_33 : ex_ X d 69 33 [v0, v1] [w0, w1, w2] h Q = ex_ X d 69 35 [v0, v1] [.int 20, w0, w1, w2] h Q := R_bipush (show mx_at 69 33 = some (.bipush 20, 2) by decide +kernel) (by decide)
set_option maxRecDepth 20000 in
theorem i69_35 : ex_ X (d + 1) 69 35 [v0, v1] [.int x0, .ref a, w0, w1] h Q = ev_ X d 35 [.ref a, .int x0] h (fun r h' => ex_ X (d + 1) 69 38 [v0, v1] (r.toList ++ [w0, w1]) h' Q) := R_ctor (show mx_at 69 35 = some (.invokespecial 18, 3) by decide +kernel) (mx_clk ow69 cc11_18) (by decide) (Nat.le_of_ble_eq_true rfl) rfl rfl (Nat.le_of_ble_eq_true rfl) ml35 (Nat.le_of_ble_eq_true rfl)
set_option maxRecDepth 20000 in
theorem i69_38 : ex_ X d 69 38 [v0, v1] [w, .ref a] h Q = (pk_ 69 h a 2 w [(11, 0)] = true ∧ ex_ X d 69 41 [v0, v1] [] (pf_ h a 2 w) Q) := R_putf (show mx_at 69 38 = some (.putfield 25, 3) by decide +kernel) (mx_fdo ow69 fd110025)
set_option maxRecDepth 20000 in
theorem i69_41 : ex_ X d 69 41 [.ref a, v1] [] h Q = ex_ X d 69 42 [.ref a, v1] [.ref a] h Q := ex_nx (show mx_at 69 41 = some (.aload_n 0, 1) by decide +kernel) rfl
set_option maxRecDepth 20000 in
theorem i69_42 : ex_ X d 69 42 [v0, v1] [w0] h Q = ex_ X d 69 43 [v0, v1] [.int 1, w0] h Q := R_iconst (show mx_at 69 42 = some (.iconst 1, 1) by decide +kernel) (by decide)
set_option maxRecDepth 20000 in
theorem i69_43 : ex_ X d 69 43 [v0, v1] [w, .ref a] h Q = (pk_ 69 h a 3 w [(11, 0)] = true ∧ ex_ X d 69 46 [v0, v1] [] (pf_ h a 3 w) Q) := R_putf (show mx_at 69 43 = some (.putfield 28, 3) by decide +kernel) (mx_fdo ow69 fd110028)
set_option maxRecDepth 20000 in
theorem i69_46 : ex_ X d 69 46 [.ref a, v1] [] h Q = ex_ X d 69 47 [.ref a, v1] [.ref a] h Q := ex_nx (show mx_at 69 46 = some (.aload_n 0, 1) by decide +kernel) rfl
set_option maxRecDepth 20000 in
theorem i69_47 : ex_ X d 69 47 [v0, v1] [w0] h Q = ex_ X d 69 50 [v0, v1] [.ref h.length, w0] (h ++ [.inr (3, [.int 0, .int 0, .int 0, .int 0, .null, .null, .null, .int 0, .null, .null, .null, .null, .int 0, .null, .null, .null, .null])]) Q := R_new (show mx_at 69 47 = some (.new 9, 3) by decide +kernel) (mx_lko ow69 cl110009) rfl
set_option maxRecDepth 20000 in
theorem i69_50 : ex_ X d 69 50 [v0, v1] [.ref a, w0] h Q = ex_ X d 69 51 [v0, v1] [.ref a, .ref a, w0] h Q := ex_nx (show mx_at 69 50 = some (.dup, 1) by decide +kernel) rfl
set_option maxRecDepth 20000 in
theorem i69_51 : ex_ X (d + 1) 69 51 [v0, v1] [.ref a, w0, w1] h Q = ev_ X d 10 [.ref a] h (fun r h' => ex_ X (d + 1) 69 54 [v0, v1] (r.toList ++ [w0, w1]) h' Q) := R_ctor (show mx_at 69 51 = some (.invokespecial 11, 3) by decide +kernel) (mx_clk ow69 cc11_11) (by decide) (Nat.le_of_ble_eq_true rfl) rfl rfl (Nat.le_of_ble_eq_true rfl) ml10 (Nat.le_of_ble_eq_true rfl)
set_option maxRecDepth 20000 in
theorem i69_54 : ex_ X d 69 54 [v0, v1] [w, .ref a] h Q = (pk_ 69 h a 4 w [(11, 0)] = true ∧ ex_ X d 69 57 [v0, v1] [] (pf_ h a 4 w) Q) := R_putf (show mx_at 69 54 = some (.putfield 32, 3) by decide +kernel) (mx_fdo ow69 fd110032)
set_option maxRecDepth 20000 in
theorem i69_57 : ex_ X d 69 57 [.ref a, v1] [] h Q = ex_ X d 69 58 [.ref a, v1] [.ref a] h Q := ex_nx (show mx_at 69 57 = some (.aload_n 0, 1) by decide +kernel) rfl
set_option maxRecDepth 20000 in
theorem i69_58 : ex_ X d 69 58 [v0, v1] [w0] h Q = ex_ X d 69 61 [v0, v1] [.ref h.length, w0] (h ++ [.inr (5, [.null, .int 0])]) Q := R_new (show mx_at 69 58 = some (.new 16, 3) by decide +kernel) (mx_lko ow69 cl110016) rfl
set_option maxRecDepth 20000 in
theorem i69_61 : ex_ X d 69 61 [v0, v1] [.ref a, w0] h Q = ex_ X d 69 62 [v0, v1] [.ref a, .ref a, w0] h Q := ex_nx (show mx_at 69 61 = some (.dup, 1) by decide +kernel) rfl
set_option maxRecDepth 20000 in
theorem i69_62 : ex_ X d 69 62 [v0, v1] [w0, w1, w2] h Q = ex_ X d 69 64 [v0, v1] [.int 50, w0, w1, w2] h Q := R_bipush (show mx_at 69 62 = some (.bipush 50, 2) by decide +kernel) (by decide)
set_option maxRecDepth 20000 in
theorem i69_64 : ex_ X (d + 1) 69 64 [v0, v1] [.int x0, .ref a, w0, w1] h Q = ev_ X d 35 [.ref a, .int x0] h (fun r h' => ex_ X (d + 1) 69 67 [v0, v1] (r.toList ++ [w0, w1]) h' Q) := R_ctor (show mx_at 69 64 = some (.invokespecial 18, 3) by decide +kernel) (mx_clk ow69 cc11_18) (by decide) (Nat.le_of_ble_eq_true rfl) rfl rfl (Nat.le_of_ble_eq_true rfl) ml35 (Nat.le_of_ble_eq_true rfl)
set_option maxRecDepth 20000 in
theorem i69_67 : ex_ X d 69 67 [v0, v1] [w, .ref a] h Q = (pk_ 69 h a 5 w [(11, 0)] = true ∧ ex_ X d 69 70 [v0, v1] [] (pf_ h a 5 w) Q) := R_putf (show mx_at 69 67 = some (.putfield 35, 3) by decide +kernel) (mx_fdo ow69 fd110035)
set_option maxRecDepth 20000 in
theorem i69_70 : ex_ X d 69 70 [.ref a, v1] [] h Q = ex_ X d 69 71 [.ref a, v1] [.ref a] h Q := ex_nx (show mx_at 69 70 = some (.aload_n 0, 1) by decide +kernel) rfl
set_option maxRecDepth 20000 in
theorem i69_71 : ex_ X d 69 71 [v0, v1] [w0] h Q = ex_ X d 69 74 [v0, v1] [.ref h.length, w0] (h ++ [.inr (5, [.null, .int 0])]) Q := R_new (show mx_at 69 71 = some (.new 16, 3) by decide +kernel) (mx_lko ow69 cl110016) rfl
set_option maxRecDepth 20000 in
theorem i69_74 : ex_ X d 69 74 [v0, v1] [.ref a, w0] h Q = ex_ X d 69 75 [v0, v1] [.ref a, .ref a, w0] h Q := ex_nx (show mx_at 69 74 = some (.dup, 1) by decide +kernel) rfl
set_option maxRecDepth 20000 in
theorem i69_75 : ex_ X d 69 75 [v0, v1] [w0, w1, w2] h Q = ex_ X d 69 77 [v0, v1] [.int 20, w0, w1, w2] h Q := R_bipush (show mx_at 69 75 = some (.bipush 20, 2) by decide +kernel) (by decide)
set_option maxRecDepth 20000 in
theorem i69_77 : ex_ X (d + 1) 69 77 [v0, v1] [.int x0, .ref a, w0, w1] h Q = ev_ X d 35 [.ref a, .int x0] h (fun r h' => ex_ X (d + 1) 69 80 [v0, v1] (r.toList ++ [w0, w1]) h' Q) := R_ctor (show mx_at 69 77 = some (.invokespecial 18, 3) by decide +kernel) (mx_clk ow69 cc11_18) (by decide) (Nat.le_of_ble_eq_true rfl) rfl rfl (Nat.le_of_ble_eq_true rfl) ml35 (Nat.le_of_ble_eq_true rfl)
set_option maxRecDepth 20000 in
theorem i69_80 : ex_ X d 69 80 [v0, v1] [w, .ref a] h Q = (pk_ 69 h a 6 w [(11, 0)] = true ∧ ex_ X d 69 83 [v0, v1] [] (pf_ h a 6 w) Q) := R_putf (show mx_at 69 80 = some (.putfield 38, 3) by decide +kernel) (mx_fdo ow69 fd110038)
set_option maxRecDepth 20000 in
theorem i69_83 : ex_ X d 69 83 [.ref a, v1] [] h Q = ex_ X d 69 84 [.ref a, v1] [.ref a] h Q := ex_nx (show mx_at 69 83 = some (.aload_n 0, 1) by decide +kernel) rfl
set_option maxRecDepth 20000 in
theorem i69_84 : ex_ X d 69 84 [v0, v1] [w0] h Q = ex_ X d 69 87 [v0, v1] [.ref h.length, w0] (h ++ [.inr (5, [.null, .int 0])]) Q := R_new (show mx_at 69 84 = some (.new 16, 3) by decide +kernel) (mx_lko ow69 cl110016) rfl
set_option maxRecDepth 20000 in
theorem i69_87 : ex_ X d 69 87 [v0, v1] [.ref a, w0] h Q = ex_ X d 69 88 [v0, v1] [.ref a, .ref a, w0] h Q := ex_nx (show mx_at 69 87 = some (.dup, 1) by decide +kernel) rfl
set_option maxRecDepth 20000 in
theorem i69_88 : ex_ X d 69 88 [v0, v1] [w0, w1, w2] h Q = ex_ X d 69 90 [v0, v1] [.int 40, w0, w1, w2] h Q := R_bipush (show mx_at 69 88 = some (.bipush 40, 2) by decide +kernel) (by decide)
set_option maxRecDepth 20000 in
theorem i69_90 : ex_ X (d + 1) 69 90 [v0, v1] [.int x0, .ref a, w0, w1] h Q = ev_ X d 35 [.ref a, .int x0] h (fun r h' => ex_ X (d + 1) 69 93 [v0, v1] (r.toList ++ [w0, w1]) h' Q) := R_ctor (show mx_at 69 90 = some (.invokespecial 18, 3) by decide +kernel) (mx_clk ow69 cc11_18) (by decide) (Nat.le_of_ble_eq_true rfl) rfl rfl (Nat.le_of_ble_eq_true rfl) ml35 (Nat.le_of_ble_eq_true rfl)
set_option maxRecDepth 20000 in
theorem i69_93 : ex_ X d 69 93 [v0, v1] [w, .ref a] h Q = (pk_ 69 h a 9 w [(11, 0)] = true ∧ ex_ X d 69 96 [v0, v1] [] (pf_ h a 9 w) Q) := R_putf (show mx_at 69 93 = some (.putfield 41, 3) by decide +kernel) (mx_fdo ow69 fd110041)
set_option maxRecDepth 20000 in
theorem i69_96 : ex_ X d 69 96 [.ref a, v1] [] h Q = ex_ X d 69 97 [.ref a, v1] [.ref a] h Q := ex_nx (show mx_at 69 96 = some (.aload_n 0, 1) by decide +kernel) rfl
set_option maxRecDepth 20000 in
theorem i69_97 : ex_ X d 69 97 [v0, v1] [w0] h Q = ex_ X d 69 98 [v0, v1] [.int 4, w0] h Q := R_iconst (show mx_at 69 97 = some (.iconst 4, 1) by decide +kernel) (by decide)
set_option maxRecDepth 20000 in
theorem i69_98 (hn : 0 ≤ x ∧ x.toNatClampNeg ≤ 1000) : ex_ X d 69 98 [v0, v1] [.int x, w0] h Q = ex_ X d 69 101 [v0, v1] [.ref h.length, w0] (h ++ [.inl (4, x.toNatClampNeg, mx_rfs (fun _ => none))]) Q := R_anew (show mx_at 69 98 = some (.anewarray 44, 3) by decide +kernel) (mx_lko ow69 cl110044) rfl hn
set_option maxRecDepth 20000 in
theorem i69_101 : ex_ X d 69 101 [v0, v1] [w, .ref a] h Q = (pk_ 69 h a 10 w [(11, 0)] = true ∧ ex_ X d 69 104 [v0, v1] [] (pf_ h a 10 w) Q) := R_putf (show mx_at 69 101 = some (.putfield 46, 3) by decide +kernel) (mx_fdo ow69 fd110046)
set_option maxRecDepth 20000 in
theorem i69_104 : ex_ X d 69 104 [.ref a, v1] [] h Q = ex_ X d 69 105 [.ref a, v1] [.ref a] h Q := ex_nx (show mx_at 69 104 = some (.aload_n 0, 1) by decide +kernel) rfl
set_option maxRecDepth 20000 in
theorem i69_105 : ex_ X d 69 105 [v0, v1] [w0] h Q = ex_ X d 69 107 [v0, v1] [.int 6, w0] h Q := R_bipush (show mx_at 69 105 = some (.bipush 6, 2) by decide +kernel) (by decide)
set_option maxRecDepth 20000 in
theorem i69_107 (hn : 0 ≤ x ∧ x.toNatClampNeg ≤ 1000) : ex_ X d 69 107 [v0, v1] [.int x, w0] h Q = ex_ X d 69 109 [v0, v1] [.ref h.length, w0] (h ++ [.inl (0, x.toNatClampNeg, .inl (fun _ => 0))]) Q := R_newa (kd := 0) (w := 2) (i := .newarray .int) (show mx_at 69 107 = some (.newarray .int, 2) by decide +kernel) (fun _ => rfl) hn
set_option maxRecDepth 20000 in
theorem i69_109 : ex_ X d 69 109 [v0, v1] [w, .ref a] h Q = (pk_ 69 h a 11 w [(11, 0)] = true ∧ ex_ X d 69 112 [v0, v1] [] (pf_ h a 11 w) Q) := R_putf (show mx_at 69 109 = some (.putfield 50, 3) by decide +kernel) (mx_fdo ow69 fd110050)
set_option maxRecDepth 20000 in
theorem i69_112 : ex_ X d 69 112 [.ref a, v1] [] h Q = ex_ X d 69 113 [.ref a, v1] [.ref a] h Q := ex_nx (show mx_at 69 112 = some (.aload_n 0, 1) by decide +kernel) rfl
set_option maxRecDepth 20000 in
theorem i69_113 : ex_ X d 69 113 [v0, v1] [w0] h Q = ex_ X d 69 116 [v0, v1] [.ref h.length, w0] (h ++ [.inr (3, [.int 0, .int 0, .int 0, .int 0, .null, .null, .null, .int 0, .null, .null, .null, .null, .int 0, .null, .null, .null, .null])]) Q := R_new (show mx_at 69 113 = some (.new 9, 3) by decide +kernel) (mx_lko ow69 cl110009) rfl
set_option maxRecDepth 20000 in
theorem i69_116 : ex_ X d 69 116 [v0, v1] [.ref a, w0] h Q = ex_ X d 69 117 [v0, v1] [.ref a, .ref a, w0] h Q := ex_nx (show mx_at 69 116 = some (.dup, 1) by decide +kernel) rfl
set_option maxRecDepth 20000 in
theorem i69_117 : ex_ X (d + 1) 69 117 [v0, v1] [.ref a, w0, w1] h Q = ev_ X d 10 [.ref a] h (fun r h' => ex_ X (d + 1) 69 120 [v0, v1] (r.toList ++ [w0, w1]) h' Q) := R_ctor (show mx_at 69 117 = some (.invokespecial 11, 3) by decide +kernel) (mx_clk ow69 cc11_11) (by decide) (Nat.le_of_ble_eq_true rfl) rfl rfl (Nat.le_of_ble_eq_true rfl) ml10 (Nat.le_of_ble_eq_true rfl)
set_option maxRecDepth 20000 in
theorem i69_120 : ex_ X d 69 120 [v0, v1] [w, .ref a] h Q = (pk_ 69 h a 12 w [(11, 0)] = true ∧ ex_ X d 69 123 [v0, v1] [] (pf_ h a 12 w) Q) := R_putf (show mx_at 69 120 = some (.putfield 54, 3) by decide +kernel) (mx_fdo ow69 fd110054)
set_option maxRecDepth 20000 in
theorem i69_123 : ex_ X d 69 123 [.ref a, v1] [] h Q = ex_ X d 69 124 [.ref a, v1] [.ref a] h Q := ex_nx (show mx_at 69 123 = some (.aload_n 0, 1) by decide +kernel) rfl
set_option maxRecDepth 20000 in
theorem i69_124 : ex_ X d 69 124 [v0, v1] [w0] h Q = ex_ X d 69 125 [v0, v1] [.int 3, w0] h Q := R_iconst (show mx_at 69 124 = some (.iconst 3, 1) by decide +kernel) (by decide)
set_option maxRecDepth 20000 in
theorem i69_125 (hn : 0 ≤ x ∧ x.toNatClampNeg ≤ 1000) : ex_ X d 69 125 [v0, v1] [.int x, w0] h Q = ex_ X d 69 128 [v0, v1] [.ref h.length, w0] (h ++ [.inl (5, x.toNatClampNeg, mx_rfs (fun _ => none))]) Q := R_anew (show mx_at 69 125 = some (.anewarray 9, 3) by decide +kernel) (mx_lko ow69 cl110009) rfl hn
set_option maxRecDepth 20000 in
theorem i69_128 : ex_ X d 69 128 [v0, v1] [w, .ref a] h Q = (pk_ 69 h a 13 w [(11, 0)] = true ∧ ex_ X d 69 131 [v0, v1] [] (pf_ h a 13 w) Q) := R_putf (show mx_at 69 128 = some (.putfield 57, 3) by decide +kernel) (mx_fdo ow69 fd110057)
set_option maxRecDepth 20000 in
theorem i69_131 : ex_ X d 69 131 [.ref a, v1] [] h Q = ex_ X d 69 132 [.ref a, v1] [.ref a] h Q := ex_nx (show mx_at 69 131 = some (.aload_n 0, 1) by decide +kernel) rfl
set_option maxRecDepth 20000 in
theorem i69_132 : ex_ X d 69 132 [v0, v1] [w0] h Q = ex_ X d 69 133 [v0, v1] [.int 3, w0] h Q := R_iconst (show mx_at 69 132 = some (.iconst 3, 1) by decide +kernel) (by decide)
set_option maxRecDepth 20000 in
theorem i69_133 (hn : 0 ≤ x ∧ x.toNatClampNeg ≤ 1000) : ex_ X d 69 133 [v0, v1] [.int x, w0] h Q = ex_ X d 69 135 [v0, v1] [.ref h.length, w0] (h ++ [.inl (0, x.toNatClampNeg, .inl (fun _ => 0))]) Q := R_newa (kd := 0) (w := 2) (i := .newarray .int) (show mx_at 69 133 = some (.newarray .int, 2) by decide +kernel) (fun _ => rfl) hn
set_option maxRecDepth 20000 in
theorem i69_135 : ex_ X d 69 135 [v0, v1] [w, .ref a] h Q = (pk_ 69 h a 14 w [(11, 0)] = true ∧ ex_ X d 69 138 [v0, v1] [] (pf_ h a 14 w) Q) := R_putf (show mx_at 69 135 = some (.putfield 61, 3) by decide +kernel) (mx_fdo ow69 fd110061)
set_option maxRecDepth 20000 in
theorem i69_138 : ex_ X d 69 138 [.ref a, v1] [] h Q = ex_ X d 69 139 [.ref a, v1] [.ref a] h Q := ex_nx (show mx_at 69 138 = some (.aload_n 0, 1) by decide +kernel) rfl
set_option maxRecDepth 20000 in
theorem i69_139 : ex_ X d 69 139 [v0, v1] [w0] h Q = ex_ X d 69 140 [v0, v1] [.int 3, w0] h Q := R_iconst (show mx_at 69 139 = some (.iconst 3, 1) by decide +kernel) (by decide)
set_option maxRecDepth 20000 in
theorem i69_140 (hn : 0 ≤ x ∧ x.toNatClampNeg ≤ 1000) : ex_ X d 69 140 [v0, v1] [.int x, w0] h Q = ex_ X d 69 142 [v0, v1] [.ref h.length, w0] (h ++ [.inl (0, x.toNatClampNeg, .inl (fun _ => 0))]) Q := R_newa (kd := 0) (w := 2) (i := .newarray .int) (show mx_at 69 140 = some (.newarray .int, 2) by decide +kernel) (fun _ => rfl) hn
set_option maxRecDepth 20000 in
theorem i69_142 : ex_ X d 69 142 [v0, v1] [w, .ref a] h Q = (pk_ 69 h a 15 w [(11, 0)] = true ∧ ex_ X d 69 145 [v0, v1] [] (pf_ h a 15 w) Q) := R_putf (show mx_at 69 142 = some (.putfield 64, 3) by decide +kernel) (mx_fdo ow69 fd110064)
set_option maxRecDepth 20000 in
theorem i69_145 : ex_ X d 69 145 [v0, v1] [] h Q = ex_ X d 69 146 [v0, v1] [.int 0] h Q := R_iconst (show mx_at 69 145 = some (.iconst 0, 1) by decide +kernel) (by decide)
set_option maxRecDepth 20000 in
theorem i69_146 : ex_ X d 69 146 [v0, v1] [.int x] h Q = (mx_nl v0 = true ∧ ex_ X d 69 147 [v0, .int x] [] h Q) := mx_t1 (R_st (ok := mx_isI) (n := 1) (w := 1) (show mx_at 69 146 = some (.istore_n 1, 1) by decide +kernel) (fun _ _ => rfl) (Nat.le_of_ble_eq_true rfl)) rfl
set_option maxRecDepth 20000 in
theorem i69_147 : ex_ X d 69 147 [v0, .int x] [] h Q = ex_ X d 69 148 [v0, .int x] [.int x] h Q := ex_nx (show mx_at 69 147 = some (.iload_n 1, 1) by decide +kernel) rfl
set_option maxRecDepth 20000 in
theorem i69_148 : ex_ X d 69 148 [v0, v1] [w0] h Q = ex_ X d 69 149 [v0, v1] [.int 4, w0] h Q := R_iconst (show mx_at 69 148 = some (.iconst 4, 1) by decide +kernel) (by decide)
set_option maxRecDepth 20000 in
theorem i69_149 : ex_ X d 69 149 [v0, v1] [.int y, .int x] h Q = if y ≤ x then ex_ X d 69 171 [v0, v1] [] h Q else ex_ X d 69 152 [v0, v1] [] h Q := (R_br (show mx_at 69 149 = some (.if_icmp .ge 22, 3) by decide +kernel) rfl rfl).trans mx_ite
set_option maxRecDepth 20000 in
theorem i69_152 : ex_ X d 69 152 [.ref a, v1] [] h Q = ex_ X d 69 153 [.ref a, v1] [.ref a] h Q := ex_nx (show mx_at 69 152 = some (.aload_n 0, 1) by decide +kernel) rfl
set_option maxRecDepth 20000 in
theorem i69_153 : ex_ X d 69 153 [v0, v1] [.ref a] h Q = (gk_ h a 10 [(11, 0)] = true ∧ ex_ X d 69 156 [v0, v1] [gv_ h a 10] h Q) := R_getf (show mx_at 69 153 = some (.getfield 46, 3) by decide +kernel) (mx_fdo ow69 fd110046)
set_option maxRecDepth 20000 in
theorem i69_156 : ex_ X d 69 156 [v0, .int x] [w0] h Q = ex_ X d 69 157 [v0, .int x] [.int x, w0] h Q := ex_nx (show mx_at 69 156 = some (.iload_n 1, 1) by decide +kernel) rfl
set_option maxRecDepth 20000 in
theorem i69_157 : ex_ X d 69 157 [v0, v1] [w0, w1] h Q = ex_ X d 69 160 [v0, v1] [.ref h.length, w0, w1] (h ++ [.inr (7, [.null, .int 0, .int 0])]) Q := R_new (show mx_at 69 157 = some (.new 44, 3) by decide +kernel) (mx_lko ow69 cl110044) rfl
set_option maxRecDepth 20000 in
theorem i69_160 : ex_ X d 69 160 [v0, v1] [.ref a, w0, w1] h Q = ex_ X d 69 161 [v0, v1] [.ref a, .ref a, w0, w1] h Q := ex_nx (show mx_at 69 160 = some (.dup, 1) by decide +kernel) rfl
set_option maxRecDepth 20000 in
theorem i69_161 : ex_ X (d + 1) 69 161 [v0, v1] [.ref a, w0, w1, w2] h Q = ev_ X d 47 [.ref a] h (fun r h' => ex_ X (d + 1) 69 164 [v0, v1] (r.toList ++ [w0, w1, w2]) h' Q) := R_ctor (show mx_at 69 161 = some (.invokespecial 67, 3) by decide +kernel) (mx_clk ow69 cc11_67) (by decide) (Nat.le_of_ble_eq_true rfl) rfl rfl (Nat.le_of_ble_eq_true rfl) ml47 (Nat.le_of_ble_eq_true rfl)
set_option maxRecDepth 20000 in
theorem i69_164 : ex_ X d 69 164 [v0, v1] [.ref b, .int i, .ref a] h Q = (rx_ h a i b = true ∧ ex_ X d 69 165 [v0, v1] [] (rs_ h a i (some b)) Q) := R_aast (show mx_at 69 164 = some (.aastore, 1) by decide +kernel)
set_option maxRecDepth 20000 in
theorem i69_165 : ex_ X d 69 165 [v0, .int x] [] h Q = (mx_nl v0 = true ∧ ex_ X d 69 168 [v0, .int (x + 1)] [] h Q) := R_iinc (n := 1) (c := 1) (show mx_at 69 165 = some (.iinc 1 1, 3) by decide +kernel) rfl
set_option maxRecDepth 20000 in
theorem i69_168 : ex_ X d 69 168 [v0, v1] [] h Q = ex_ X d 69 147 [v0, v1] [] h Q := R_to (show mx_at 69 168 = some (.goto (-21), 3) by decide +kernel) rfl rfl
set_option maxRecDepth 20000 in
theorem i69_171 : ex_ X d 69 171 [v0, v1] [] h Q = ex_ X d 69 172 [v0, v1] [.int 0] h Q := R_iconst (show mx_at 69 171 = some (.iconst 0, 1) by decide +kernel) (by decide)
set_option maxRecDepth 20000 in
theorem i69_172 : ex_ X d 69 172 [v0, v1] [.int x] h Q = (mx_nl v0 = true ∧ ex_ X d 69 173 [v0, .int x] [] h Q) := mx_t1 (R_st (ok := mx_isI) (n := 1) (w := 1) (show mx_at 69 172 = some (.istore_n 1, 1) by decide +kernel) (fun _ _ => rfl) (Nat.le_of_ble_eq_true rfl)) rfl
set_option maxRecDepth 20000 in
theorem i69_173 : ex_ X d 69 173 [v0, .int x] [] h Q = ex_ X d 69 174 [v0, .int x] [.int x] h Q := ex_nx (show mx_at 69 173 = some (.iload_n 1, 1) by decide +kernel) rfl
set_option maxRecDepth 20000 in
theorem i69_174 : ex_ X d 69 174 [v0, v1] [w0] h Q = ex_ X d 69 175 [v0, v1] [.int 3, w0] h Q := R_iconst (show mx_at 69 174 = some (.iconst 3, 1) by decide +kernel) (by decide)
set_option maxRecDepth 20000 in
theorem i69_175 : ex_ X d 69 175 [v0, v1] [.int y, .int x] h Q = if y ≤ x then ex_ X d 69 197 [v0, v1] [] h Q else ex_ X d 69 178 [v0, v1] [] h Q := (R_br (show mx_at 69 175 = some (.if_icmp .ge 22, 3) by decide +kernel) rfl rfl).trans mx_ite
set_option maxRecDepth 20000 in
theorem i69_178 : ex_ X d 69 178 [.ref a, v1] [] h Q = ex_ X d 69 179 [.ref a, v1] [.ref a] h Q := ex_nx (show mx_at 69 178 = some (.aload_n 0, 1) by decide +kernel) rfl
set_option maxRecDepth 20000 in
theorem i69_179 : ex_ X d 69 179 [v0, v1] [.ref a] h Q = (gk_ h a 13 [(11, 0)] = true ∧ ex_ X d 69 182 [v0, v1] [gv_ h a 13] h Q) := R_getf (show mx_at 69 179 = some (.getfield 57, 3) by decide +kernel) (mx_fdo ow69 fd110057)
set_option maxRecDepth 20000 in
theorem i69_182 : ex_ X d 69 182 [v0, .int x] [w0] h Q = ex_ X d 69 183 [v0, .int x] [.int x, w0] h Q := ex_nx (show mx_at 69 182 = some (.iload_n 1, 1) by decide +kernel) rfl
set_option maxRecDepth 20000 in
theorem i69_183 : ex_ X d 69 183 [v0, v1] [w0, w1] h Q = ex_ X d 69 186 [v0, v1] [.ref h.length, w0, w1] (h ++ [.inr (3, [.int 0, .int 0, .int 0, .int 0, .null, .null, .null, .int 0, .null, .null, .null, .null, .int 0, .null, .null, .null, .null])]) Q := R_new (show mx_at 69 183 = some (.new 9, 3) by decide +kernel) (mx_lko ow69 cl110009) rfl
set_option maxRecDepth 20000 in
theorem i69_186 : ex_ X d 69 186 [v0, v1] [.ref a, w0, w1] h Q = ex_ X d 69 187 [v0, v1] [.ref a, .ref a, w0, w1] h Q := ex_nx (show mx_at 69 186 = some (.dup, 1) by decide +kernel) rfl
set_option maxRecDepth 20000 in
theorem i69_187 : ex_ X (d + 1) 69 187 [v0, v1] [.ref a, w0, w1, w2] h Q = ev_ X d 10 [.ref a] h (fun r h' => ex_ X (d + 1) 69 190 [v0, v1] (r.toList ++ [w0, w1, w2]) h' Q) := R_ctor (show mx_at 69 187 = some (.invokespecial 11, 3) by decide +kernel) (mx_clk ow69 cc11_11) (by decide) (Nat.le_of_ble_eq_true rfl) rfl rfl (Nat.le_of_ble_eq_true rfl) ml10 (Nat.le_of_ble_eq_true rfl)
set_option maxRecDepth 20000 in
theorem i69_190 : ex_ X d 69 190 [v0, v1] [.ref b, .int i, .ref a] h Q = (rx_ h a i b = true ∧ ex_ X d 69 191 [v0, v1] [] (rs_ h a i (some b)) Q) := R_aast (show mx_at 69 190 = some (.aastore, 1) by decide +kernel)
set_option maxRecDepth 20000 in
theorem i69_191 : ex_ X d 69 191 [v0, .int x] [] h Q = (mx_nl v0 = true ∧ ex_ X d 69 194 [v0, .int (x + 1)] [] h Q) := R_iinc (n := 1) (c := 1) (show mx_at 69 191 = some (.iinc 1 1, 3) by decide +kernel) rfl
set_option maxRecDepth 20000 in
theorem i69_194 : ex_ X d 69 194 [v0, v1] [] h Q = ex_ X d 69 173 [v0, v1] [] h Q := R_to (show mx_at 69 194 = some (.goto (-21), 3) by decide +kernel) rfl rfl
set_option maxRecDepth 20000 in
theorem i69_197 : ex_ X d 69 197 [v0, v1] [] h Q = Q none h := ex_ret (show mx_at 69 197 = some (.return_, 1) by decide +kernel) (mx_retV rt69)
theorem i69_e : ev_ X d 69 [.ref a] h Q = ex_ X d 69 0 [.ref a, .double 0] [] h Q := by rw [ev_, ml69]; rfl
-- 70 X11_seller
set_option maxRecDepth 20000 in
theorem i70_0 : ex_ X d 70 0 [v0, .int x, v2, v3, v4] [] h Q = ex_ X d 70 1 [v0, .int x, v2, v3, v4] [.int x] h Q := ex_nx (show mx_at 70 0 = some (.iload_n 1, 1) by decide +kernel) rfl
set_option maxRecDepth 20000 in
theorem i70_1 : ex_ X d 70 1 [v0, v1, v2, v3, v4] [w0] h Q = ex_ X d 70 2 [v0, v1, v2, v3, v4] [.int 0, w0] h Q := R_iconst (show mx_at 70 1 = some (.iconst 0, 1) by decide +kernel) (by decide)
set_option maxRecDepth 20000 in
theorem i70_2 : ex_ X d 70 2 [v0, v1, v2, v3, v4] [w0, w1] h Q = ex_ X d 70 4 [v0, v1, v2, v3, v4] [.int 6, w0, w1] h Q := R_bipush (show mx_at 70 2 = some (.bipush 6, 2) by decide +kernel) (by decide)
set_option maxRecDepth 20000 in
theorem i70_4 : ex_ X (d + 1) 70 4 [v0, v1, v2, v3, v4] [.int x2, .int x1, .int x0] h Q = ev_ X d 107 [.int x0, .int x1, .int x2] h (fun r h' => ex_ X (d + 1) 70 7 [v0, v1, v2, v3, v4] (r.toList ++ []) h' Q) := R_stat (show mx_at 70 4 = some (.invokestatic 68, 3) by decide +kernel) (mx_clk ow70 cc11_68) (Nat.le_of_ble_eq_true rfl) rfl rfl (Nat.le_of_ble_eq_true rfl) ml107 (Nat.le_of_ble_eq_true rfl)
set_option maxRecDepth 20000 in
theorem i70_7 : ex_ X d 70 7 [v0, v1, v2, v3, v4] [.int x] h Q = if x = 0 then ex_ X d 70 35 [v0, v1, v2, v3, v4] [] h Q else ex_ X d 70 10 [v0, v1, v2, v3, v4] [] h Q := (R_br (show mx_at 70 7 = some (.ifCond .eq 28, 3) by decide +kernel) rfl rfl).trans mx_ite
set_option maxRecDepth 20000 in
theorem i70_10 : ex_ X d 70 10 [v0, v1, .int x, v3, v4] [] h Q = ex_ X d 70 11 [v0, v1, .int x, v3, v4] [.int x] h Q := ex_nx (show mx_at 70 10 = some (.iload_n 2, 1) by decide +kernel) rfl
set_option maxRecDepth 20000 in
theorem i70_11 : ex_ X d 70 11 [v0, v1, v2, v3, v4] [w0] h Q = ex_ X d 70 12 [v0, v1, v2, v3, v4] [.int 0, w0] h Q := R_iconst (show mx_at 70 11 = some (.iconst 0, 1) by decide +kernel) (by decide)
set_option maxRecDepth 20000 in
theorem i70_12 : ex_ X d 70 12 [v0, v1, v2, v3, v4] [w0, w1] h Q = ex_ X d 70 14 [v0, v1, v2, v3, v4] [.int 99, w0, w1] h Q := R_bipush (show mx_at 70 12 = some (.bipush 99, 2) by decide +kernel) (by decide)
set_option maxRecDepth 20000 in
theorem i70_14 : ex_ X (d + 1) 70 14 [v0, v1, v2, v3, v4] [.int x2, .int x1, .int x0] h Q = ev_ X d 107 [.int x0, .int x1, .int x2] h (fun r h' => ex_ X (d + 1) 70 17 [v0, v1, v2, v3, v4] (r.toList ++ []) h' Q) := R_stat (show mx_at 70 14 = some (.invokestatic 68, 3) by decide +kernel) (mx_clk ow70 cc11_68) (Nat.le_of_ble_eq_true rfl) rfl rfl (Nat.le_of_ble_eq_true rfl) ml107 (Nat.le_of_ble_eq_true rfl)
set_option maxRecDepth 20000 in
theorem i70_17 : ex_ X d 70 17 [v0, v1, v2, v3, v4] [.int x] h Q = if x = 0 then ex_ X d 70 35 [v0, v1, v2, v3, v4] [] h Q else ex_ X d 70 20 [v0, v1, v2, v3, v4] [] h Q := (R_br (show mx_at 70 17 = some (.ifCond .eq 18, 3) by decide +kernel) rfl rfl).trans mx_ite
set_option maxRecDepth 20000 in
theorem i70_20 : ex_ X d 70 20 [v0, v1, v2, .int x, v4] [] h Q = ex_ X d 70 21 [v0, v1, v2, .int x, v4] [.int x] h Q := ex_nx (show mx_at 70 20 = some (.iload_n 3, 1) by decide +kernel) rfl
set_option maxRecDepth 20000 in
theorem i70_21 : ex_ X d 70 21 [v0, v1, v2, v3, v4] [w0] h Q = ex_ X d 70 22 [v0, v1, v2, v3, v4] [.int 0, w0] h Q := R_iconst (show mx_at 70 21 = some (.iconst 0, 1) by decide +kernel) (by decide)
set_option maxRecDepth 20000 in
theorem i70_22 : ex_ X d 70 22 [v0, v1, v2, v3, v4] [w0, w1] h Q = ex_ X d 70 25 [v0, v1, v2, v3, v4] [.int 9999, w0, w1] h Q := R_sipush (show mx_at 70 22 = some (.sipush 9999, 3) by decide +kernel) (by decide)
set_option maxRecDepth 20000 in
theorem i70_25 : ex_ X (d + 1) 70 25 [v0, v1, v2, v3, v4] [.int x2, .int x1, .int x0] h Q = ev_ X d 107 [.int x0, .int x1, .int x2] h (fun r h' => ex_ X (d + 1) 70 28 [v0, v1, v2, v3, v4] (r.toList ++ []) h' Q) := R_stat (show mx_at 70 25 = some (.invokestatic 68, 3) by decide +kernel) (mx_clk ow70 cc11_68) (Nat.le_of_ble_eq_true rfl) rfl rfl (Nat.le_of_ble_eq_true rfl) ml107 (Nat.le_of_ble_eq_true rfl)
set_option maxRecDepth 20000 in
theorem i70_28 : ex_ X d 70 28 [v0, v1, v2, v3, v4] [.int x] h Q = if x = 0 then ex_ X d 70 35 [v0, v1, v2, v3, v4] [] h Q else ex_ X d 70 31 [v0, v1, v2, v3, v4] [] h Q := (R_br (show mx_at 70 28 = some (.ifCond .eq 7, 3) by decide +kernel) rfl rfl).trans mx_ite
set_option maxRecDepth 20000 in
theorem i70_31 : ex_ X d 70 31 [v0, v1, v2, v3, v4] [] h Q = ex_ X d 70 32 [v0, v1, v2, v3, v4] [.int 1] h Q := R_iconst (show mx_at 70 31 = some (.iconst 1, 1) by decide +kernel) (by decide)
set_option maxRecDepth 20000 in
theorem i70_32 : ex_ X d 70 32 [v0, v1, v2, v3, v4] [w0] h Q = ex_ X d 70 36 [v0, v1, v2, v3, v4] [w0] h Q := R_to (show mx_at 70 32 = some (.goto 4, 3) by decide +kernel) rfl rfl
set_option maxRecDepth 20000 in
theorem i70_35 : ex_ X d 70 35 [v0, v1, v2, v3, v4] [] h Q = ex_ X d 70 36 [v0, v1, v2, v3, v4] [.int 0] h Q := R_iconst (show mx_at 70 35 = some (.iconst 0, 1) by decide +kernel) (by decide)
set_option maxRecDepth 20000 in
theorem i70_36 : ex_ X d 70 36 [v0, v1, v2, v3, v4] [.int x] h Q = (mx_nl v3 = true ∧ ex_ X d 70 38 [v0, v1, v2, v3, .int x] [] h Q) := mx_t1 (R_st (ok := mx_isI) (n := 4) (w := 2) (show mx_at 70 36 = some (.istore 4, 2) by decide +kernel) (fun _ _ => rfl) (Nat.le_of_ble_eq_true rfl)) rfl
set_option maxRecDepth 20000 in
theorem i70_38 : ex_ X d 70 38 [v0, v1, v2, v3, .int x] [] h Q = ex_ X d 70 40 [v0, v1, v2, v3, .int x] [.int x] h Q := ex_nx (show mx_at 70 38 = some (.iload 4, 2) by decide +kernel) rfl
set_option maxRecDepth 20000 in
theorem i70_40 : ex_ X d 70 40 [v0, v1, v2, v3, v4] [.int x] h Q = if ¬ x = 0 then ex_ X d 70 49 [v0, v1, v2, v3, v4] [] h Q else ex_ X d 70 43 [v0, v1, v2, v3, v4] [] h Q := (R_br (show mx_at 70 40 = some (.ifCond .ne 9, 3) by decide +kernel) rfl rfl).trans mx_ite
set_option maxRecDepth 20000 in
theorem i70_43 : ex_ X d 70 43 [.ref a, v1, v2, v3, v4] [] h Q = ex_ X d 70 44 [.ref a, v1, v2, v3, v4] [.ref a] h Q := ex_nx (show mx_at 70 43 = some (.aload_n 0, 1) by decide +kernel) rfl
set_option maxRecDepth 20000 in
theorem i70_44 : ex_ X d 70 44 [v0, v1, v2, v3, v4] [w0] h Q = ex_ X d 70 45 [v0, v1, v2, v3, v4] [.int 1, w0] h Q := R_iconst (show mx_at 70 44 = some (.iconst 1, 1) by decide +kernel) (by decide)
set_option maxRecDepth 20000 in
theorem i70_45 (hc : co_ h a = some 11) : ex_ X (d + 1) 70 45 [v0, v1, v2, v3, v4] [.int x0, .ref a] h Q = ev_ X d 106 [.ref a, .int x0] h (fun r h' => ex_ X (d + 1) 70 48 [v0, v1, v2, v3, v4] (r.toList ++ []) h' Q) := R_vir (show mx_at 70 45 = some (.invokevirtual 72, 3) by decide +kernel) (mx_clk ow70 cc11_72) (Nat.le_of_ble_eq_true rfl) rfl rfl hc rfl (Nat.le_of_ble_eq_true rfl) (Nat.le_of_ble_eq_true rfl) (by rw [ml106]; exact Nat.le_of_ble_eq_true rfl)
set_option maxRecDepth 20000 in
theorem i70_48 : ex_ X d 70 48 [v0, v1, v2, v3, v4] [.int x] h Q = Q (some (.int x)) h := ex_ret (show mx_at 70 48 = some (.ireturn, 1) by decide +kernel) (mx_retI rt70)
set_option maxRecDepth 20000 in
theorem i70_49 : ex_ X d 70 49 [.ref a, v1, v2, v3, v4] [] h Q = ex_ X d 70 50 [.ref a, v1, v2, v3, v4] [.ref a] h Q := ex_nx (show mx_at 70 49 = some (.aload_n 0, 1) by decide +kernel) rfl
set_option maxRecDepth 20000 in
theorem i70_50 : ex_ X d 70 50 [v0, v1, v2, v3, v4] [.ref a] h Q = (gk_ h a 0 [(11, 0)] = true ∧ ex_ X d 70 53 [v0, v1, v2, v3, v4] [gv_ h a 0] h Q) := R_getf (show mx_at 70 50 = some (.getfield 12, 3) by decide +kernel) (mx_fdo ow70 fd110012)
set_option maxRecDepth 20000 in
theorem i70_53 : ex_ X d 70 53 [v0, v1, v2, v3, v4] [.ref a] h Q = (gk_ h a 7 [(3, 0)] = true ∧ ex_ X d 70 56 [v0, v1, v2, v3, v4] [gv_ h a 7] h Q) := R_getf (show mx_at 70 53 = some (.getfield 76, 3) by decide +kernel) (mx_fdo ow70 fd110076)
set_option maxRecDepth 20000 in
theorem i70_56 : ex_ X d 70 56 [v0, v1, v2, v3, v4] [w0] h Q = ex_ X d 70 58 [v0, v1, v2, v3, v4] [.int 6, w0] h Q := R_bipush (show mx_at 70 56 = some (.bipush 6, 2) by decide +kernel) (by decide)
set_option maxRecDepth 20000 in
theorem i70_58 : ex_ X d 70 58 [v0, v1, v2, v3, v4] [.int y, .int x] h Q = if x < y then ex_ X d 70 67 [v0, v1, v2, v3, v4] [] h Q else ex_ X d 70 61 [v0, v1, v2, v3, v4] [] h Q := (R_br (show mx_at 70 58 = some (.if_icmp .lt 9, 3) by decide +kernel) rfl rfl).trans mx_ite
set_option maxRecDepth 20000 in
theorem i70_61 : ex_ X d 70 61 [.ref a, v1, v2, v3, v4] [] h Q = ex_ X d 70 62 [.ref a, v1, v2, v3, v4] [.ref a] h Q := ex_nx (show mx_at 70 61 = some (.aload_n 0, 1) by decide +kernel) rfl
set_option maxRecDepth 20000 in
theorem i70_62 : ex_ X d 70 62 [v0, v1, v2, v3, v4] [w0] h Q = ex_ X d 70 63 [v0, v1, v2, v3, v4] [.int 4, w0] h Q := R_iconst (show mx_at 70 62 = some (.iconst 4, 1) by decide +kernel) (by decide)
set_option maxRecDepth 20000 in
theorem i70_63 (hc : co_ h a = some 11) : ex_ X (d + 1) 70 63 [v0, v1, v2, v3, v4] [.int x0, .ref a] h Q = ev_ X d 106 [.ref a, .int x0] h (fun r h' => ex_ X (d + 1) 70 66 [v0, v1, v2, v3, v4] (r.toList ++ []) h' Q) := R_vir (show mx_at 70 63 = some (.invokevirtual 72, 3) by decide +kernel) (mx_clk ow70 cc11_72) (Nat.le_of_ble_eq_true rfl) rfl rfl hc rfl (Nat.le_of_ble_eq_true rfl) (Nat.le_of_ble_eq_true rfl) (by rw [ml106]; exact Nat.le_of_ble_eq_true rfl)
set_option maxRecDepth 20000 in
theorem i70_66 : ex_ X d 70 66 [v0, v1, v2, v3, v4] [.int x] h Q = Q (some (.int x)) h := ex_ret (show mx_at 70 66 = some (.ireturn, 1) by decide +kernel) (mx_retI rt70)
set_option maxRecDepth 20000 in
theorem i70_67 : ex_ X d 70 67 [.ref a, v1, v2, v3, v4] [] h Q = ex_ X d 70 68 [.ref a, v1, v2, v3, v4] [.ref a] h Q := ex_nx (show mx_at 70 67 = some (.aload_n 0, 1) by decide +kernel) rfl
set_option maxRecDepth 20000 in
theorem i70_68 : ex_ X d 70 68 [v0, v1, v2, v3, v4] [.ref a] h Q = (gk_ h a 0 [(11, 0)] = true ∧ ex_ X d 70 71 [v0, v1, v2, v3, v4] [gv_ h a 0] h Q) := R_getf (show mx_at 70 68 = some (.getfield 12, 3) by decide +kernel) (mx_fdo ow70 fd110012)
set_option maxRecDepth 20000 in
theorem i70_71 : ex_ X d 70 71 [.ref a, v1, v2, v3, v4] [w0] h Q = ex_ X d 70 72 [.ref a, v1, v2, v3, v4] [.ref a, w0] h Q := ex_nx (show mx_at 70 71 = some (.aload_n 0, 1) by decide +kernel) rfl
set_option maxRecDepth 20000 in
theorem i70_72 : ex_ X d 70 72 [v0, v1, v2, v3, v4] [.ref a, w0] h Q = (gk_ h a 0 [(11, 0)] = true ∧ ex_ X d 70 75 [v0, v1, v2, v3, v4] [gv_ h a 0, w0] h Q) := R_getf (show mx_at 70 72 = some (.getfield 12, 3) by decide +kernel) (mx_fdo ow70 fd110012)
set_option maxRecDepth 20000 in
theorem i70_75 : ex_ X d 70 75 [v0, v1, v2, v3, v4] [.ref a, w0] h Q = (gk_ h a 7 [(3, 0)] = true ∧ ex_ X d 70 78 [v0, v1, v2, v3, v4] [gv_ h a 7, w0] h Q) := R_getf (show mx_at 70 75 = some (.getfield 76, 3) by decide +kernel) (mx_fdo ow70 fd110076)
set_option maxRecDepth 20000 in
theorem i70_78 : ex_ X d 70 78 [v0, .int x, v2, v3, v4] [w0, w1] h Q = ex_ X d 70 79 [v0, .int x, v2, v3, v4] [.int x, w0, w1] h Q := ex_nx (show mx_at 70 78 = some (.iload_n 1, 1) by decide +kernel) rfl
set_option maxRecDepth 20000 in
theorem i70_79 : ex_ X d 70 79 [v0, v1, .int x, v3, v4] [w0, w1, w2] h Q = ex_ X d 70 80 [v0, v1, .int x, v3, v4] [.int x, w0, w1, w2] h Q := ex_nx (show mx_at 70 79 = some (.iload_n 2, 1) by decide +kernel) rfl
set_option maxRecDepth 20000 in
theorem i70_80 : ex_ X d 70 80 [v0, v1, v2, .int x, v4] [w0, w1, w2, w3] h Q = ex_ X d 70 81 [v0, v1, v2, .int x, v4] [.int x, w0, w1, w2, w3] h Q := ex_nx (show mx_at 70 80 = some (.iload_n 3, 1) by decide +kernel) rfl
set_option maxRecDepth 20000 in
theorem i70_81 : ex_ X d 70 81 [v0, v1, v2, v3, v4] [w0, w1, w2, w3, w4] h Q = ex_ X d 70 83 [v0, v1, v2, v3, v4] [.int 10, w0, w1, w2, w3, w4] h Q := R_bipush (show mx_at 70 81 = some (.bipush 10, 2) by decide +kernel) (by decide)
set_option maxRecDepth 20000 in
theorem i70_83 : ex_ X d 70 83 [v0, v1, v2, v3, v4] [.int y, .int x, w0, w1, w2, w3] h Q = (y ≠ 0 ∧ ex_ X d 70 84 [v0, v1, v2, v3, v4] [.int (x / y), w0, w1, w2, w3] h Q) := R_div (show mx_at 70 83 = some (.idiv, 1) by decide +kernel)
set_option maxRecDepth 20000 in
theorem i70_84 : ex_ X d 70 84 [v0, v1, v2, .int x, v4] [w0, w1, w2, w3, w4] h Q = ex_ X d 70 85 [v0, v1, v2, .int x, v4] [.int x, w0, w1, w2, w3, w4] h Q := ex_nx (show mx_at 70 84 = some (.iload_n 3, 1) by decide +kernel) rfl
set_option maxRecDepth 20000 in
theorem i70_85 : ex_ X d 70 85 [v0, v1, v2, v3, v4] [w0, w1, w2, w3, w4, w5] h Q = ex_ X d 70 87 [v0, v1, v2, v3, v4] [.int 10, w0, w1, w2, w3, w4, w5] h Q := R_bipush (show mx_at 70 85 = some (.bipush 10, 2) by decide +kernel) (by decide)
set_option maxRecDepth 20000 in
theorem i70_87 : ex_ X d 70 87 [v0, v1, v2, v3, v4] [.int y, .int x, w0, w1, w2, w3, w4] h Q = (y ≠ 0 ∧ ex_ X d 70 88 [v0, v1, v2, v3, v4] [.int (x - x / y * y), w0, w1, w2, w3, w4] h Q) := R_rem (show mx_at 70 87 = some (.irem, 1) by decide +kernel)
set_option maxRecDepth 20000 in
theorem i70_88 : ex_ X (d + 1) 70 88 [v0, v1, v2, v3, v4] [.int x4, .int x3, .int x2, .int x1, .int x0, w0] h Q = ev_ X d 117 [.int x0, .int x1, .int x2, .int x3, .int x4] h (fun r h' => ex_ X (d + 1) 70 91 [v0, v1, v2, v3, v4] (r.toList ++ [w0]) h' Q) := R_stat (show mx_at 70 88 = some (.invokestatic 79, 3) by decide +kernel) (mx_clk ow70 cc11_79) (Nat.le_of_ble_eq_true rfl) rfl rfl (Nat.le_of_ble_eq_true rfl) ml117 (Nat.le_of_ble_eq_true rfl)
set_option maxRecDepth 20000 in
theorem i70_91 (hc : co_ h a = some 3) : ex_ X (d + 1) 70 91 [v0, v1, v2, v3, v4] [.ref a0, .ref a] h Q = ev_ X d 12 [.ref a, .ref a0] h (fun r h' => ex_ X (d + 1) 70 94 [v0, v1, v2, v3, v4] (r.toList ++ []) h' Q) := R_vir (show mx_at 70 91 = some (.invokevirtual 83, 3) by decide +kernel) (mx_clk ow70 cc11_83) (Nat.le_of_ble_eq_true rfl) rfl rfl hc rfl (Nat.le_of_ble_eq_true rfl) (Nat.le_of_ble_eq_true rfl) (by rw [ml12]; exact Nat.le_of_ble_eq_true rfl)
set_option maxRecDepth 20000 in
theorem i70_94 : ex_ X d 70 94 [v0, v1, v2, v3, v4] [.int x] h Q = Q (some (.int x)) h := ex_ret (show mx_at 70 94 = some (.ireturn, 1) by decide +kernel) (mx_retI rt70)
theorem i70_e : ev_ X d 70 [.ref a, .int x0, .int x1, .int x2] h Q = ex_ X d 70 0 [.ref a, .int x0, .int x1, .int x2, .double 0] [] h Q := by rw [ev_, ml70]; rfl
-- 71 X11_ofSeller
set_option maxRecDepth 20000 in
theorem i71_0 : ex_ X d 71 0 [.ref a, v1, v2] [] h Q = ex_ X d 71 1 [.ref a, v1, v2] [.ref a] h Q := ex_nx (show mx_at 71 0 = some (.aload_n 0, 1) by decide +kernel) rfl
set_option maxRecDepth 20000 in
theorem i71_1 : ex_ X d 71 1 [v0, .int x, v2] [w0] h Q = ex_ X d 71 2 [v0, .int x, v2] [.int x, w0] h Q := ex_nx (show mx_at 71 1 = some (.iload_n 1, 1) by decide +kernel) rfl
set_option maxRecDepth 20000 in
theorem i71_2 (hc : co_ h a = some 11) : ex_ X (d + 1) 71 2 [v0, v1, v2] [.int x0, .ref a] h Q = ev_ X d 108 [.ref a, .int x0] h (fun r h' => ex_ X (d + 1) 71 5 [v0, v1, v2] (r.toList ++ []) h' Q) := R_vir (show mx_at 71 2 = some (.invokevirtual 87, 3) by decide +kernel) (mx_clk ow71 cc11_87) (Nat.le_of_ble_eq_true rfl) rfl rfl hc rfl (Nat.le_of_ble_eq_true rfl) (Nat.le_of_ble_eq_true rfl) (by rw [ml108]; exact Nat.le_of_ble_eq_true rfl)
set_option maxRecDepth 20000 in
theorem i71_5 : ex_ X d 71 5 [v0, v1, v2] [.int x] h Q = if x = 0 then ex_ X d 71 18 [v0, v1, v2] [] h Q else ex_ X d 71 8 [v0, v1, v2] [] h Q := (R_br (show mx_at 71 5 = some (.ifCond .eq 13, 3) by decide +kernel) rfl rfl).trans mx_ite
set_option maxRecDepth 20000 in
theorem i71_8 : ex_ X d 71 8 [v0, v1, .int x] [] h Q = ex_ X d 71 9 [v0, v1, .int x] [.int x] h Q := ex_nx (show mx_at 71 8 = some (.iload_n 2, 1) by decide +kernel) rfl
set_option maxRecDepth 20000 in
theorem i71_9 : ex_ X d 71 9 [v0, v1, v2] [w0] h Q = ex_ X d 71 10 [v0, v1, v2] [.int 0, w0] h Q := R_iconst (show mx_at 71 9 = some (.iconst 0, 1) by decide +kernel) (by decide)
set_option maxRecDepth 20000 in
theorem i71_10 : ex_ X d 71 10 [v0, v1, v2] [w0, w1] h Q = ex_ X d 71 12 [v0, v1, v2] [.int 8, w0, w1] h Q := R_bipush (show mx_at 71 10 = some (.bipush 8, 2) by decide +kernel) (by decide)
set_option maxRecDepth 20000 in
theorem i71_12 : ex_ X (d + 1) 71 12 [v0, v1, v2] [.int x2, .int x1, .int x0] h Q = ev_ X d 107 [.int x0, .int x1, .int x2] h (fun r h' => ex_ X (d + 1) 71 15 [v0, v1, v2] (r.toList ++ []) h' Q) := R_stat (show mx_at 71 12 = some (.invokestatic 68, 3) by decide +kernel) (mx_clk ow71 cc11_68) (Nat.le_of_ble_eq_true rfl) rfl rfl (Nat.le_of_ble_eq_true rfl) ml107 (Nat.le_of_ble_eq_true rfl)
set_option maxRecDepth 20000 in
theorem i71_15 : ex_ X d 71 15 [v0, v1, v2] [.int x] h Q = if ¬ x = 0 then ex_ X d 71 24 [v0, v1, v2] [] h Q else ex_ X d 71 18 [v0, v1, v2] [] h Q := (R_br (show mx_at 71 15 = some (.ifCond .ne 9, 3) by decide +kernel) rfl rfl).trans mx_ite
set_option maxRecDepth 20000 in
theorem i71_18 : ex_ X d 71 18 [.ref a, v1, v2] [] h Q = ex_ X d 71 19 [.ref a, v1, v2] [.ref a] h Q := ex_nx (show mx_at 71 18 = some (.aload_n 0, 1) by decide +kernel) rfl
set_option maxRecDepth 20000 in
theorem i71_19 : ex_ X d 71 19 [v0, v1, v2] [w0] h Q = ex_ X d 71 20 [v0, v1, v2] [.int 1, w0] h Q := R_iconst (show mx_at 71 19 = some (.iconst 1, 1) by decide +kernel) (by decide)
set_option maxRecDepth 20000 in
theorem i71_20 (hc : co_ h a = some 11) : ex_ X (d + 1) 71 20 [v0, v1, v2] [.int x0, .ref a] h Q = ev_ X d 106 [.ref a, .int x0] h (fun r h' => ex_ X (d + 1) 71 23 [v0, v1, v2] (r.toList ++ []) h' Q) := R_vir (show mx_at 71 20 = some (.invokevirtual 72, 3) by decide +kernel) (mx_clk ow71 cc11_72) (Nat.le_of_ble_eq_true rfl) rfl rfl hc rfl (Nat.le_of_ble_eq_true rfl) (Nat.le_of_ble_eq_true rfl) (by rw [ml106]; exact Nat.le_of_ble_eq_true rfl)
set_option maxRecDepth 20000 in
theorem i71_23 : ex_ X d 71 23 [v0, v1, v2] [.int x] h Q = Q (some (.int x)) h := ex_ret (show mx_at 71 23 = some (.ireturn, 1) by decide +kernel) (mx_retI rt71)
set_option maxRecDepth 20000 in
theorem i71_24 : ex_ X d 71 24 [.ref a, v1, v2] [] h Q = ex_ X d 71 25 [.ref a, v1, v2] [.ref a] h Q := ex_nx (show mx_at 71 24 = some (.aload_n 0, 1) by decide +kernel) rfl
set_option maxRecDepth 20000 in
theorem i71_25 : ex_ X d 71 25 [v0, v1, v2] [.ref a] h Q = (gk_ h a 0 [(11, 0)] = true ∧ ex_ X d 71 28 [v0, v1, v2] [gv_ h a 0] h Q) := R_getf (show mx_at 71 25 = some (.getfield 12, 3) by decide +kernel) (mx_fdo ow71 fd110012)
set_option maxRecDepth 20000 in
theorem i71_28 : ex_ X d 71 28 [v0, .int x, v2] [w0] h Q = ex_ X d 71 29 [v0, .int x, v2] [.int x, w0] h Q := ex_nx (show mx_at 71 28 = some (.iload_n 1, 1) by decide +kernel) rfl
set_option maxRecDepth 20000 in
theorem i71_29 : ex_ X d 71 29 [v0, v1, .int x] [w0, w1] h Q = ex_ X d 71 30 [v0, v1, .int x] [.int x, w0, w1] h Q := ex_nx (show mx_at 71 29 = some (.iload_n 2, 1) by decide +kernel) rfl
set_option maxRecDepth 20000 in
theorem i71_30 (hc : co_ h a = some 3) : ex_ X (d + 1) 71 30 [v0, v1, v2] [.int x1, .int x0, .ref a] h Q = ev_ X d 14 [.ref a, .int x0, .int x1] h (fun r h' => ex_ X (d + 1) 71 33 [v0, v1, v2] (r.toList ++ []) h' Q) := R_vir (show mx_at 71 30 = some (.invokevirtual 91, 3) by decide +kernel) (mx_clk ow71 cc11_91) (Nat.le_of_ble_eq_true rfl) rfl rfl hc rfl (Nat.le_of_ble_eq_true rfl) (Nat.le_of_ble_eq_true rfl) (by rw [ml14]; exact Nat.le_of_ble_eq_true rfl)
set_option maxRecDepth 20000 in
theorem i71_33 : ex_ X d 71 33 [v0, v1, v2] [.int x] h Q = Q (some (.int x)) h := ex_ret (show mx_at 71 33 = some (.ireturn, 1) by decide +kernel) (mx_retI rt71)
theorem i71_e : ev_ X d 71 [.ref a, .int x0, .int x1] h Q = ex_ X d 71 0 [.ref a, .int x0, .int x1] [] h Q := by rw [ev_, ml71]; rfl
-- 72 X11_set
set_option maxRecDepth 20000 in
theorem i72_0 : ex_ X d 72 0 [.ref a, v1, v2, v3, v4, v5] [] h Q = ex_ X d 72 1 [.ref a, v1, v2, v3, v4, v5] [.ref a] h Q := ex_nx (show mx_at 72 0 = some (.aload_n 0, 1) by decide +kernel) rfl
set_option maxRecDepth 20000 in
theorem i72_1 : ex_ X d 72 1 [v0, .int x, v2, v3, v4, v5] [w0] h Q = ex_ X d 72 2 [v0, .int x, v2, v3, v4, v5] [.int x, w0] h Q := ex_nx (show mx_at 72 1 = some (.iload_n 1, 1) by decide +kernel) rfl
set_option maxRecDepth 20000 in
theorem i72_2 (hc : co_ h a = some 11) : ex_ X (d + 1) 72 2 [v0, v1, v2, v3, v4, v5] [.int x0, .ref a] h Q = ev_ X d 108 [.ref a, .int x0] h (fun r h' => ex_ X (d + 1) 72 5 [v0, v1, v2, v3, v4, v5] (r.toList ++ []) h' Q) := R_vir (show mx_at 72 2 = some (.invokevirtual 87, 3) by decide +kernel) (mx_clk ow72 cc11_87) (Nat.le_of_ble_eq_true rfl) rfl rfl hc rfl (Nat.le_of_ble_eq_true rfl) (Nat.le_of_ble_eq_true rfl) (by rw [ml108]; exact Nat.le_of_ble_eq_true rfl)
set_option maxRecDepth 20000 in
theorem i72_5 : ex_ X d 72 5 [v0, v1, v2, v3, v4, v5] [.int x] h Q = if x = 0 then ex_ X d 72 16 [v0, v1, v2, v3, v4, v5] [] h Q else ex_ X d 72 8 [v0, v1, v2, v3, v4, v5] [] h Q := (R_br (show mx_at 72 5 = some (.ifCond .eq 11, 3) by decide +kernel) rfl rfl).trans mx_ite
set_option maxRecDepth 20000 in
theorem i72_8 : ex_ X d 72 8 [v0, v1, .int x, v3, v4, v5] [] h Q = ex_ X d 72 9 [v0, v1, .int x, v3, v4, v5] [.int x] h Q := ex_nx (show mx_at 72 8 = some (.iload_n 2, 1) by decide +kernel) rfl
set_option maxRecDepth 20000 in
theorem i72_9 : ex_ X d 72 9 [v0, v1, v2, .int x, v4, v5] [w0] h Q = ex_ X d 72 10 [v0, v1, v2, .int x, v4, v5] [.int x, w0] h Q := ex_nx (show mx_at 72 9 = some (.iload_n 3, 1) by decide +kernel) rfl
set_option maxRecDepth 20000 in
theorem i72_10 : ex_ X (d + 1) 72 10 [v0, v1, v2, v3, v4, v5] [.int x1, .int x0] h Q = ev_ X d 115 [.int x0, .int x1] h (fun r h' => ex_ X (d + 1) 72 13 [v0, v1, v2, v3, v4, v5] (r.toList ++ []) h' Q) := R_stat (show mx_at 72 10 = some (.invokestatic 95, 3) by decide +kernel) (mx_clk ow72 cc11_95) (Nat.le_of_ble_eq_true rfl) rfl rfl (Nat.le_of_ble_eq_true rfl) ml115 (Nat.le_of_ble_eq_true rfl)
set_option maxRecDepth 20000 in
theorem i72_13 : ex_ X d 72 13 [v0, v1, v2, v3, v4, v5] [.int x] h Q = if ¬ x = 0 then ex_ X d 72 22 [v0, v1, v2, v3, v4, v5] [] h Q else ex_ X d 72 16 [v0, v1, v2, v3, v4, v5] [] h Q := (R_br (show mx_at 72 13 = some (.ifCond .ne 9, 3) by decide +kernel) rfl rfl).trans mx_ite
set_option maxRecDepth 20000 in
theorem i72_16 : ex_ X d 72 16 [.ref a, v1, v2, v3, v4, v5] [] h Q = ex_ X d 72 17 [.ref a, v1, v2, v3, v4, v5] [.ref a] h Q := ex_nx (show mx_at 72 16 = some (.aload_n 0, 1) by decide +kernel) rfl
set_option maxRecDepth 20000 in
theorem i72_17 : ex_ X d 72 17 [v0, v1, v2, v3, v4, v5] [w0] h Q = ex_ X d 72 18 [v0, v1, v2, v3, v4, v5] [.int 1, w0] h Q := R_iconst (show mx_at 72 17 = some (.iconst 1, 1) by decide +kernel) (by decide)
set_option maxRecDepth 20000 in
theorem i72_18 (hc : co_ h a = some 11) : ex_ X (d + 1) 72 18 [v0, v1, v2, v3, v4, v5] [.int x0, .ref a] h Q = ev_ X d 106 [.ref a, .int x0] h (fun r h' => ex_ X (d + 1) 72 21 [v0, v1, v2, v3, v4, v5] (r.toList ++ []) h' Q) := R_vir (show mx_at 72 18 = some (.invokevirtual 72, 3) by decide +kernel) (mx_clk ow72 cc11_72) (Nat.le_of_ble_eq_true rfl) rfl rfl hc rfl (Nat.le_of_ble_eq_true rfl) (Nat.le_of_ble_eq_true rfl) (by rw [ml106]; exact Nat.le_of_ble_eq_true rfl)
set_option maxRecDepth 20000 in
theorem i72_21 : ex_ X d 72 21 [v0, v1, v2, v3, v4, v5] [.int x] h Q = Q (some (.int x)) h := ex_ret (show mx_at 72 21 = some (.ireturn, 1) by decide +kernel) (mx_retI rt72)
set_option maxRecDepth 20000 in
theorem i72_22 : ex_ X d 72 22 [v0, v1, .int x, v3, v4, v5] [] h Q = ex_ X d 72 23 [v0, v1, .int x, v3, v4, v5] [.int x] h Q := ex_nx (show mx_at 72 22 = some (.iload_n 2, 1) by decide +kernel) rfl
set_option maxRecDepth 20000 in
theorem i72_23 : ex_ X d 72 23 [v0, v1, v2, v3, v4, v5] [.int x] h Q = if ¬ x = 0 then ex_ X d 72 36 [v0, v1, v2, v3, v4, v5] [] h Q else ex_ X d 72 26 [v0, v1, v2, v3, v4, v5] [] h Q := (R_br (show mx_at 72 23 = some (.ifCond .ne 13, 3) by decide +kernel) rfl rfl).trans mx_ite
set_option maxRecDepth 20000 in
theorem i72_26 : ex_ X d 72 26 [.ref a, v1, v2, v3, v4, v5] [] h Q = ex_ X d 72 27 [.ref a, v1, v2, v3, v4, v5] [.ref a] h Q := ex_nx (show mx_at 72 26 = some (.aload_n 0, 1) by decide +kernel) rfl
set_option maxRecDepth 20000 in
theorem i72_27 : ex_ X d 72 27 [v0, v1, v2, v3, v4, v5] [.ref a] h Q = (gk_ h a 0 [(11, 0)] = true ∧ ex_ X d 72 30 [v0, v1, v2, v3, v4, v5] [gv_ h a 0] h Q) := R_getf (show mx_at 72 27 = some (.getfield 12, 3) by decide +kernel) (mx_fdo ow72 fd110012)
set_option maxRecDepth 20000 in
theorem i72_30 : ex_ X d 72 30 [v0, v1, v2, v3, v4, v5] [.ref a] h Q = (gk_ h a 8 [(3, 0)] = true ∧ ex_ X d 72 33 [v0, v1, v2, v3, v4, v5] [gv_ h a 8] h Q) := R_getf (show mx_at 72 30 = some (.getfield 99, 3) by decide +kernel) (mx_fdo ow72 fd110099)
set_option maxRecDepth 20000 in
theorem i72_33 : ex_ X d 72 33 [v0, v1, v2, v3, v4, v5] [w0] h Q = ex_ X d 72 58 [v0, v1, v2, v3, v4, v5] [w0] h Q := R_to (show mx_at 72 33 = some (.goto 25, 3) by decide +kernel) rfl rfl
set_option maxRecDepth 20000 in
theorem i72_36 : ex_ X d 72 36 [v0, v1, .int x, v3, v4, v5] [] h Q = ex_ X d 72 37 [v0, v1, .int x, v3, v4, v5] [.int x] h Q := ex_nx (show mx_at 72 36 = some (.iload_n 2, 1) by decide +kernel) rfl
set_option maxRecDepth 20000 in
theorem i72_37 : ex_ X d 72 37 [v0, v1, v2, v3, v4, v5] [w0] h Q = ex_ X d 72 38 [v0, v1, v2, v3, v4, v5] [.int 1, w0] h Q := R_iconst (show mx_at 72 37 = some (.iconst 1, 1) by decide +kernel) (by decide)
set_option maxRecDepth 20000 in
theorem i72_38 : ex_ X d 72 38 [v0, v1, v2, v3, v4, v5] [.int y, .int x] h Q = if ¬ x = y then ex_ X d 72 51 [v0, v1, v2, v3, v4, v5] [] h Q else ex_ X d 72 41 [v0, v1, v2, v3, v4, v5] [] h Q := (R_br (show mx_at 72 38 = some (.if_icmp .ne 13, 3) by decide +kernel) rfl rfl).trans mx_ite
set_option maxRecDepth 20000 in
theorem i72_41 : ex_ X d 72 41 [.ref a, v1, v2, v3, v4, v5] [] h Q = ex_ X d 72 42 [.ref a, v1, v2, v3, v4, v5] [.ref a] h Q := ex_nx (show mx_at 72 41 = some (.aload_n 0, 1) by decide +kernel) rfl
set_option maxRecDepth 20000 in
theorem i72_42 : ex_ X d 72 42 [v0, v1, v2, v3, v4, v5] [.ref a] h Q = (gk_ h a 0 [(11, 0)] = true ∧ ex_ X d 72 45 [v0, v1, v2, v3, v4, v5] [gv_ h a 0] h Q) := R_getf (show mx_at 72 42 = some (.getfield 12, 3) by decide +kernel) (mx_fdo ow72 fd110012)
set_option maxRecDepth 20000 in
theorem i72_45 : ex_ X d 72 45 [v0, v1, v2, v3, v4, v5] [.ref a] h Q = (gk_ h a 9 [(3, 0)] = true ∧ ex_ X d 72 48 [v0, v1, v2, v3, v4, v5] [gv_ h a 9] h Q) := R_getf (show mx_at 72 45 = some (.getfield 102, 3) by decide +kernel) (mx_fdo ow72 fd110102)
set_option maxRecDepth 20000 in
theorem i72_48 : ex_ X d 72 48 [v0, v1, v2, v3, v4, v5] [w0] h Q = ex_ X d 72 58 [v0, v1, v2, v3, v4, v5] [w0] h Q := R_to (show mx_at 72 48 = some (.goto 10, 3) by decide +kernel) rfl rfl
set_option maxRecDepth 20000 in
theorem i72_51 : ex_ X d 72 51 [.ref a, v1, v2, v3, v4, v5] [] h Q = ex_ X d 72 52 [.ref a, v1, v2, v3, v4, v5] [.ref a] h Q := ex_nx (show mx_at 72 51 = some (.aload_n 0, 1) by decide +kernel) rfl
set_option maxRecDepth 20000 in
theorem i72_52 : ex_ X d 72 52 [v0, v1, v2, v3, v4, v5] [.ref a] h Q = (gk_ h a 0 [(11, 0)] = true ∧ ex_ X d 72 55 [v0, v1, v2, v3, v4, v5] [gv_ h a 0] h Q) := R_getf (show mx_at 72 52 = some (.getfield 12, 3) by decide +kernel) (mx_fdo ow72 fd110012)
set_option maxRecDepth 20000 in
theorem i72_55 : ex_ X d 72 55 [v0, v1, v2, v3, v4, v5] [.ref a] h Q = (gk_ h a 10 [(3, 0)] = true ∧ ex_ X d 72 58 [v0, v1, v2, v3, v4, v5] [gv_ h a 10] h Q) := R_getf (show mx_at 72 55 = some (.getfield 105, 3) by decide +kernel) (mx_fdo ow72 fd110105)
set_option maxRecDepth 20000 in
theorem i72_58 : ex_ X d 72 58 [v0, v1, v2, v3, v4, v5] [.ref a] h Q = (mx_nl v3 = true ∧ ex_ X d 72 60 [v0, v1, v2, v3, .ref a, v5] [] h Q) := mx_t1 (R_st (ok := mx_isA) (n := 4) (w := 2) (show mx_at 72 58 = some (.astore 4, 2) by decide +kernel) (fun _ _ => rfl) (Nat.le_of_ble_eq_true rfl)) rfl
set_option maxRecDepth 20000 in
theorem i72_60 : ex_ X d 72 60 [v0, v1, v2, v3, .ref a, v5] [] h Q = ex_ X d 72 62 [v0, v1, v2, v3, .ref a, v5] [.ref a] h Q := ex_nx (show mx_at 72 60 = some (.aload 4, 2) by decide +kernel) rfl
set_option maxRecDepth 20000 in
theorem i72_62 : ex_ X d 72 62 [v0, .int x, v2, v3, v4, v5] [w0] h Q = ex_ X d 72 63 [v0, .int x, v2, v3, v4, v5] [.int x, w0] h Q := ex_nx (show mx_at 72 62 = some (.iload_n 1, 1) by decide +kernel) rfl
set_option maxRecDepth 20000 in
theorem i72_63 : ex_ X d 72 63 [v0, v1, v2, v3, v4, v5] [.int i, .ref a] h Q = (ik_ h a i = true ∧ ex_ X d 72 64 [v0, v1, v2, v3, v4, v5] [.int (ia_ h a i)] h Q) := R_iald (show mx_at 72 63 = some (.iaload, 1) by decide +kernel)
set_option maxRecDepth 20000 in
theorem i72_64 : ex_ X d 72 64 [v0, v1, v2, v3, v4, v5] [.int x] h Q = (mx_nl v4 = true ∧ ex_ X d 72 66 [v0, v1, v2, v3, v4, .int x] [] h Q) := mx_t1 (R_st (ok := mx_isI) (n := 5) (w := 2) (show mx_at 72 64 = some (.istore 5, 2) by decide +kernel) (fun _ _ => rfl) (Nat.le_of_ble_eq_true rfl)) rfl
set_option maxRecDepth 20000 in
theorem i72_66 : ex_ X d 72 66 [v0, v1, v2, v3, .ref a, v5] [] h Q = ex_ X d 72 68 [v0, v1, v2, v3, .ref a, v5] [.ref a] h Q := ex_nx (show mx_at 72 66 = some (.aload 4, 2) by decide +kernel) rfl
set_option maxRecDepth 20000 in
theorem i72_68 : ex_ X d 72 68 [v0, .int x, v2, v3, v4, v5] [w0] h Q = ex_ X d 72 69 [v0, .int x, v2, v3, v4, v5] [.int x, w0] h Q := ex_nx (show mx_at 72 68 = some (.iload_n 1, 1) by decide +kernel) rfl
set_option maxRecDepth 20000 in
theorem i72_69 : ex_ X d 72 69 [v0, v1, v2, .int x, v4, v5] [w0, w1] h Q = ex_ X d 72 70 [v0, v1, v2, .int x, v4, v5] [.int x, w0, w1] h Q := ex_nx (show mx_at 72 69 = some (.iload_n 3, 1) by decide +kernel) rfl
set_option maxRecDepth 20000 in
theorem i72_70 : ex_ X d 72 70 [v0, v1, v2, v3, v4, v5] [.int x, .int i, .ref a] h Q = (ik_ h a i = true ∧ ex_ X d 72 71 [v0, v1, v2, v3, v4, v5] [] (is_ h a i x) Q) := R_iast (show mx_at 72 70 = some (.iastore, 1) by decide +kernel)
set_option maxRecDepth 20000 in
theorem i72_71 : ex_ X d 72 71 [v0, v1, v2, v3, v4, .int x] [] h Q = ex_ X d 72 73 [v0, v1, v2, v3, v4, .int x] [.int x] h Q := ex_nx (show mx_at 72 71 = some (.iload 5, 2) by decide +kernel) rfl
set_option maxRecDepth 20000 in
theorem i72_73 : ex_ X d 72 73 [v0, v1, v2, v3, v4, v5] [.int x] h Q = Q (some (.int x)) h := ex_ret (show mx_at 72 73 = some (.ireturn, 1) by decide +kernel) (mx_retI rt72)
theorem i72_e : ev_ X d 72 [.ref a, .int x0, .int x1, .int x2] h Q = ex_ X d 72 0 [.ref a, .int x0, .int x1, .int x2, .double 0, .double 0] [] h Q := by rw [ev_, ml72]; rfl
-- 73 X11_as
set_option maxRecDepth 20000 in
theorem i73_0 : ex_ X d 73 0 [.ref a, v1, v2, v3] [] h Q = ex_ X d 73 1 [.ref a, v1, v2, v3] [.ref a] h Q := ex_nx (show mx_at 73 0 = some (.aload_n 0, 1) by decide +kernel) rfl
set_option maxRecDepth 20000 in
theorem i73_1 : ex_ X d 73 1 [v0, .int x, v2, v3] [w0] h Q = ex_ X d 73 2 [v0, .int x, v2, v3] [.int x, w0] h Q := ex_nx (show mx_at 73 1 = some (.iload_n 1, 1) by decide +kernel) rfl
set_option maxRecDepth 20000 in
theorem i73_2 (hc : co_ h a = some 11) : ex_ X (d + 1) 73 2 [v0, v1, v2, v3] [.int x0, .ref a] h Q = ev_ X d 108 [.ref a, .int x0] h (fun r h' => ex_ X (d + 1) 73 5 [v0, v1, v2, v3] (r.toList ++ []) h' Q) := R_vir (show mx_at 73 2 = some (.invokevirtual 87, 3) by decide +kernel) (mx_clk ow73 cc11_87) (Nat.le_of_ble_eq_true rfl) rfl rfl hc rfl (Nat.le_of_ble_eq_true rfl) (Nat.le_of_ble_eq_true rfl) (by rw [ml108]; exact Nat.le_of_ble_eq_true rfl)
set_option maxRecDepth 20000 in
theorem i73_5 : ex_ X d 73 5 [v0, v1, v2, v3] [.int x] h Q = if x = 0 then ex_ X d 73 18 [v0, v1, v2, v3] [] h Q else ex_ X d 73 8 [v0, v1, v2, v3] [] h Q := (R_br (show mx_at 73 5 = some (.ifCond .eq 13, 3) by decide +kernel) rfl rfl).trans mx_ite
set_option maxRecDepth 20000 in
theorem i73_8 : ex_ X d 73 8 [v0, v1, .int x, v3] [] h Q = ex_ X d 73 9 [v0, v1, .int x, v3] [.int x] h Q := ex_nx (show mx_at 73 8 = some (.iload_n 2, 1) by decide +kernel) rfl
set_option maxRecDepth 20000 in
theorem i73_9 : ex_ X d 73 9 [v0, v1, v2, v3] [w0] h Q = ex_ X d 73 10 [v0, v1, v2, v3] [.int 0, w0] h Q := R_iconst (show mx_at 73 9 = some (.iconst 0, 1) by decide +kernel) (by decide)
set_option maxRecDepth 20000 in
theorem i73_10 : ex_ X d 73 10 [v0, v1, v2, v3] [w0, w1] h Q = ex_ X d 73 12 [v0, v1, v2, v3] [.int 6, w0, w1] h Q := R_bipush (show mx_at 73 10 = some (.bipush 6, 2) by decide +kernel) (by decide)
set_option maxRecDepth 20000 in
theorem i73_12 : ex_ X (d + 1) 73 12 [v0, v1, v2, v3] [.int x2, .int x1, .int x0] h Q = ev_ X d 107 [.int x0, .int x1, .int x2] h (fun r h' => ex_ X (d + 1) 73 15 [v0, v1, v2, v3] (r.toList ++ []) h' Q) := R_stat (show mx_at 73 12 = some (.invokestatic 68, 3) by decide +kernel) (mx_clk ow73 cc11_68) (Nat.le_of_ble_eq_true rfl) rfl rfl (Nat.le_of_ble_eq_true rfl) ml107 (Nat.le_of_ble_eq_true rfl)
set_option maxRecDepth 20000 in
theorem i73_15 : ex_ X d 73 15 [v0, v1, v2, v3] [.int x] h Q = if ¬ x = 0 then ex_ X d 73 24 [v0, v1, v2, v3] [] h Q else ex_ X d 73 18 [v0, v1, v2, v3] [] h Q := (R_br (show mx_at 73 15 = some (.ifCond .ne 9, 3) by decide +kernel) rfl rfl).trans mx_ite
set_option maxRecDepth 20000 in
theorem i73_18 : ex_ X d 73 18 [.ref a, v1, v2, v3] [] h Q = ex_ X d 73 19 [.ref a, v1, v2, v3] [.ref a] h Q := ex_nx (show mx_at 73 18 = some (.aload_n 0, 1) by decide +kernel) rfl
set_option maxRecDepth 20000 in
theorem i73_19 : ex_ X d 73 19 [v0, v1, v2, v3] [w0] h Q = ex_ X d 73 20 [v0, v1, v2, v3] [.int 1, w0] h Q := R_iconst (show mx_at 73 19 = some (.iconst 1, 1) by decide +kernel) (by decide)
set_option maxRecDepth 20000 in
theorem i73_20 (hc : co_ h a = some 11) : ex_ X (d + 1) 73 20 [v0, v1, v2, v3] [.int x0, .ref a] h Q = ev_ X d 106 [.ref a, .int x0] h (fun r h' => ex_ X (d + 1) 73 23 [v0, v1, v2, v3] (r.toList ++ []) h' Q) := R_vir (show mx_at 73 20 = some (.invokevirtual 72, 3) by decide +kernel) (mx_clk ow73 cc11_72) (Nat.le_of_ble_eq_true rfl) rfl rfl hc rfl (Nat.le_of_ble_eq_true rfl) (Nat.le_of_ble_eq_true rfl) (by rw [ml106]; exact Nat.le_of_ble_eq_true rfl)
set_option maxRecDepth 20000 in
theorem i73_23 : ex_ X d 73 23 [v0, v1, v2, v3] [.int x] h Q = Q (some (.int x)) h := ex_ret (show mx_at 73 23 = some (.ireturn, 1) by decide +kernel) (mx_retI rt73)
set_option maxRecDepth 20000 in
theorem i73_24 : ex_ X d 73 24 [.ref a, v1, v2, v3] [] h Q = ex_ X d 73 25 [.ref a, v1, v2, v3] [.ref a] h Q := ex_nx (show mx_at 73 24 = some (.aload_n 0, 1) by decide +kernel) rfl
set_option maxRecDepth 20000 in
theorem i73_25 : ex_ X d 73 25 [v0, v1, v2, v3] [.ref a] h Q = (gk_ h a 0 [(11, 0)] = true ∧ ex_ X d 73 28 [v0, v1, v2, v3] [gv_ h a 0] h Q) := R_getf (show mx_at 73 25 = some (.getfield 12, 3) by decide +kernel) (mx_fdo ow73 fd110012)
set_option maxRecDepth 20000 in
theorem i73_28 : ex_ X d 73 28 [v0, v1, v2, v3] [.ref a] h Q = (gk_ h a 6 [(3, 0)] = true ∧ ex_ X d 73 31 [v0, v1, v2, v3] [gv_ h a 6] h Q) := R_getf (show mx_at 73 28 = some (.getfield 108, 3) by decide +kernel) (mx_fdo ow73 fd110108)
set_option maxRecDepth 20000 in
theorem i73_31 : ex_ X d 73 31 [v0, .int x, v2, v3] [w0] h Q = ex_ X d 73 32 [v0, .int x, v2, v3] [.int x, w0] h Q := ex_nx (show mx_at 73 31 = some (.iload_n 1, 1) by decide +kernel) rfl
set_option maxRecDepth 20000 in
theorem i73_32 : ex_ X d 73 32 [v0, v1, v2, v3] [.int i, .ref a] h Q = (rk_ h a i = true ∧ ex_ X d 73 33 [v0, v1, v2, v3] [mx_vr (ra_ h a i)] h Q) := R_aald (show mx_at 73 32 = some (.aaload, 1) by decide +kernel)
set_option maxRecDepth 20000 in
theorem i73_33 : ex_ X d 73 33 [v0, v1, v2, v3] [.ref a] h Q = (mx_nl v2 = true ∧ ex_ X d 73 34 [v0, v1, v2, .ref a] [] h Q) := mx_t1 (R_st (ok := mx_isA) (n := 3) (w := 1) (show mx_at 73 33 = some (.astore_n 3, 1) by decide +kernel) (fun _ _ => rfl) (Nat.le_of_ble_eq_true rfl)) rfl
set_option maxRecDepth 20000 in
theorem i73_34 : ex_ X d 73 34 [v0, v1, v2, .ref a] [] h Q = ex_ X d 73 35 [v0, v1, v2, .ref a] [.ref a] h Q := ex_nx (show mx_at 73 34 = some (.aload_n 3, 1) by decide +kernel) rfl
set_option maxRecDepth 20000 in
theorem i73_35 : ex_ X d 73 35 [v0, v1, .int x, v3] [w0] h Q = ex_ X d 73 36 [v0, v1, .int x, v3] [.int x, w0] h Q := ex_nx (show mx_at 73 35 = some (.iload_n 2, 1) by decide +kernel) rfl
set_option maxRecDepth 20000 in
theorem i73_36 : ex_ X (d + 1) 73 36 [v0, v1, v2, v3] [.int x1, .ref a0] h Q = ev_ X d 118 [.ref a0, .int x1] h (fun r h' => ex_ X (d + 1) 73 39 [v0, v1, v2, v3] (r.toList ++ []) h' Q) := R_stat (show mx_at 73 36 = some (.invokestatic 112, 3) by decide +kernel) (mx_clk ow73 cc11_112) (Nat.le_of_ble_eq_true rfl) rfl rfl (Nat.le_of_ble_eq_true rfl) ml118 (Nat.le_of_ble_eq_true rfl)
set_option maxRecDepth 20000 in
theorem i73_39 : ex_ X d 73 39 [v0, v1, v2, v3] [.int x] h Q = if x = 0 then ex_ X d 73 49 [v0, v1, v2, v3] [] h Q else ex_ X d 73 42 [v0, v1, v2, v3] [] h Q := (R_br (show mx_at 73 39 = some (.ifCond .eq 10, 3) by decide +kernel) rfl rfl).trans mx_ite
set_option maxRecDepth 20000 in
theorem i73_42 : ex_ X d 73 42 [v0, v1, v2, .ref a] [] h Q = ex_ X d 73 43 [v0, v1, v2, .ref a] [.ref a] h Q := ex_nx (show mx_at 73 42 = some (.aload_n 3, 1) by decide +kernel) rfl
set_option maxRecDepth 20000 in
theorem i73_43 : ex_ X d 73 43 [v0, v1, v2, v3] [.ref a] h Q = (gk_ h a 2 [(0, 0), (1, 0), (2, 0), (4, 0), (6, 0), (8, 0), (9, 0)] = true ∧ ex_ X d 73 46 [v0, v1, v2, v3] [gv_ h a 2] h Q) := R_getf (show mx_at 73 43 = some (.getfield 116, 3) by decide +kernel) (mx_fdo ow73 fd110116)
set_option maxRecDepth 20000 in
theorem i73_46 : ex_ X d 73 46 [v0, v1, v2, v3] [w0] h Q = ex_ X d 73 54 [v0, v1, v2, v3] [w0] h Q := R_to (show mx_at 73 46 = some (.goto 8, 3) by decide +kernel) rfl rfl
set_option maxRecDepth 20000 in
theorem i73_49 : ex_ X d 73 49 [.ref a, v1, v2, v3] [] h Q = ex_ X d 73 50 [.ref a, v1, v2, v3] [.ref a] h Q := ex_nx (show mx_at 73 49 = some (.aload_n 0, 1) by decide +kernel) rfl
set_option maxRecDepth 20000 in
theorem i73_50 : ex_ X d 73 50 [v0, v1, v2, v3] [w0] h Q = ex_ X d 73 51 [v0, v1, v2, v3] [.int 5, w0] h Q := R_iconst (show mx_at 73 50 = some (.iconst 5, 1) by decide +kernel) (by decide)
set_option maxRecDepth 20000 in
theorem i73_51 (hc : co_ h a = some 11) : ex_ X (d + 1) 73 51 [v0, v1, v2, v3] [.int x0, .ref a] h Q = ev_ X d 106 [.ref a, .int x0] h (fun r h' => ex_ X (d + 1) 73 54 [v0, v1, v2, v3] (r.toList ++ []) h' Q) := R_vir (show mx_at 73 51 = some (.invokevirtual 72, 3) by decide +kernel) (mx_clk ow73 cc11_72) (Nat.le_of_ble_eq_true rfl) rfl rfl hc rfl (Nat.le_of_ble_eq_true rfl) (Nat.le_of_ble_eq_true rfl) (by rw [ml106]; exact Nat.le_of_ble_eq_true rfl)
set_option maxRecDepth 20000 in
theorem i73_54 : ex_ X d 73 54 [v0, v1, v2, v3] [.int x] h Q = Q (some (.int x)) h := ex_ret (show mx_at 73 54 = some (.ireturn, 1) by decide +kernel) (mx_retI rt73)
theorem i73_e : ev_ X d 73 [.ref a, .int x0, .int x1] h Q = ex_ X d 73 0 [.ref a, .int x0, .int x1, .double 0] [] h Q := by rw [ev_, ml73]; rfl
-- 74 X11_may
set_option maxRecDepth 20000 in
theorem i74_0 : ex_ X d 74 0 [.ref a, v1, v2] [] h Q = ex_ X d 74 1 [.ref a, v1, v2] [.ref a] h Q := ex_nx (show mx_at 74 0 = some (.aload_n 0, 1) by decide +kernel) rfl
set_option maxRecDepth 20000 in
theorem i74_1 : ex_ X d 74 1 [v0, .int x, v2] [w0] h Q = ex_ X d 74 2 [v0, .int x, v2] [.int x, w0] h Q := ex_nx (show mx_at 74 1 = some (.iload_n 1, 1) by decide +kernel) rfl
set_option maxRecDepth 20000 in
theorem i74_2 (hc : co_ h a = some 11) : ex_ X (d + 1) 74 2 [v0, v1, v2] [.int x0, .ref a] h Q = ev_ X d 108 [.ref a, .int x0] h (fun r h' => ex_ X (d + 1) 74 5 [v0, v1, v2] (r.toList ++ []) h' Q) := R_vir (show mx_at 74 2 = some (.invokevirtual 87, 3) by decide +kernel) (mx_clk ow74 cc11_87) (Nat.le_of_ble_eq_true rfl) rfl rfl hc rfl (Nat.le_of_ble_eq_true rfl) (Nat.le_of_ble_eq_true rfl) (by rw [ml108]; exact Nat.le_of_ble_eq_true rfl)
set_option maxRecDepth 20000 in
theorem i74_5 : ex_ X d 74 5 [v0, v1, v2] [.int x] h Q = if x = 0 then ex_ X d 74 19 [v0, v1, v2] [] h Q else ex_ X d 74 8 [v0, v1, v2] [] h Q := (R_br (show mx_at 74 5 = some (.ifCond .eq 14, 3) by decide +kernel) rfl rfl).trans mx_ite
set_option maxRecDepth 20000 in
theorem i74_8 : ex_ X d 74 8 [v0, v1, .int x] [] h Q = ex_ X d 74 9 [v0, v1, .int x] [.int x] h Q := ex_nx (show mx_at 74 8 = some (.iload_n 2, 1) by decide +kernel) rfl
set_option maxRecDepth 20000 in
theorem i74_9 : ex_ X d 74 9 [v0, v1, v2] [w0] h Q = ex_ X d 74 10 [v0, v1, v2] [.int 0, w0] h Q := R_iconst (show mx_at 74 9 = some (.iconst 0, 1) by decide +kernel) (by decide)
set_option maxRecDepth 20000 in
theorem i74_10 : ex_ X d 74 10 [v0, v1, v2] [w0, w1] h Q = ex_ X d 74 13 [v0, v1, v2] [.int 999, w0, w1] h Q := R_sipush (show mx_at 74 10 = some (.sipush 999, 3) by decide +kernel) (by decide)
set_option maxRecDepth 20000 in
theorem i74_13 : ex_ X (d + 1) 74 13 [v0, v1, v2] [.int x2, .int x1, .int x0] h Q = ev_ X d 107 [.int x0, .int x1, .int x2] h (fun r h' => ex_ X (d + 1) 74 16 [v0, v1, v2] (r.toList ++ []) h' Q) := R_stat (show mx_at 74 13 = some (.invokestatic 68, 3) by decide +kernel) (mx_clk ow74 cc11_68) (Nat.le_of_ble_eq_true rfl) rfl rfl (Nat.le_of_ble_eq_true rfl) ml107 (Nat.le_of_ble_eq_true rfl)
set_option maxRecDepth 20000 in
theorem i74_16 : ex_ X d 74 16 [v0, v1, v2] [.int x] h Q = if ¬ x = 0 then ex_ X d 74 25 [v0, v1, v2] [] h Q else ex_ X d 74 19 [v0, v1, v2] [] h Q := (R_br (show mx_at 74 16 = some (.ifCond .ne 9, 3) by decide +kernel) rfl rfl).trans mx_ite
set_option maxRecDepth 20000 in
theorem i74_19 : ex_ X d 74 19 [.ref a, v1, v2] [] h Q = ex_ X d 74 20 [.ref a, v1, v2] [.ref a] h Q := ex_nx (show mx_at 74 19 = some (.aload_n 0, 1) by decide +kernel) rfl
set_option maxRecDepth 20000 in
theorem i74_20 : ex_ X d 74 20 [v0, v1, v2] [w0] h Q = ex_ X d 74 21 [v0, v1, v2] [.int 1, w0] h Q := R_iconst (show mx_at 74 20 = some (.iconst 1, 1) by decide +kernel) (by decide)
set_option maxRecDepth 20000 in
theorem i74_21 (hc : co_ h a = some 11) : ex_ X (d + 1) 74 21 [v0, v1, v2] [.int x0, .ref a] h Q = ev_ X d 106 [.ref a, .int x0] h (fun r h' => ex_ X (d + 1) 74 24 [v0, v1, v2] (r.toList ++ []) h' Q) := R_vir (show mx_at 74 21 = some (.invokevirtual 72, 3) by decide +kernel) (mx_clk ow74 cc11_72) (Nat.le_of_ble_eq_true rfl) rfl rfl hc rfl (Nat.le_of_ble_eq_true rfl) (Nat.le_of_ble_eq_true rfl) (by rw [ml106]; exact Nat.le_of_ble_eq_true rfl)
set_option maxRecDepth 20000 in
theorem i74_24 : ex_ X d 74 24 [v0, v1, v2] [.int x] h Q = Q (some (.int x)) h := ex_ret (show mx_at 74 24 = some (.ireturn, 1) by decide +kernel) (mx_retI rt74)
set_option maxRecDepth 20000 in
theorem i74_25 : ex_ X d 74 25 [.ref a, v1, v2] [] h Q = ex_ X d 74 26 [.ref a, v1, v2] [.ref a] h Q := ex_nx (show mx_at 74 25 = some (.aload_n 0, 1) by decide +kernel) rfl
set_option maxRecDepth 20000 in
theorem i74_26 : ex_ X d 74 26 [v0, v1, v2] [.ref a] h Q = (gk_ h a 0 [(11, 0)] = true ∧ ex_ X d 74 29 [v0, v1, v2] [gv_ h a 0] h Q) := R_getf (show mx_at 74 26 = some (.getfield 12, 3) by decide +kernel) (mx_fdo ow74 fd110012)
set_option maxRecDepth 20000 in
theorem i74_29 : ex_ X d 74 29 [.ref a, v1, v2] [w0] h Q = ex_ X d 74 30 [.ref a, v1, v2] [.ref a, w0] h Q := ex_nx (show mx_at 74 29 = some (.aload_n 0, 1) by decide +kernel) rfl
set_option maxRecDepth 20000 in
theorem i74_30 : ex_ X d 74 30 [v0, v1, v2] [.ref a, w0] h Q = (gk_ h a 0 [(11, 0)] = true ∧ ex_ X d 74 33 [v0, v1, v2] [gv_ h a 0, w0] h Q) := R_getf (show mx_at 74 30 = some (.getfield 12, 3) by decide +kernel) (mx_fdo ow74 fd110012)
set_option maxRecDepth 20000 in
theorem i74_33 : ex_ X d 74 33 [v0, v1, v2] [.ref a, w0] h Q = (gk_ h a 10 [(3, 0)] = true ∧ ex_ X d 74 36 [v0, v1, v2] [gv_ h a 10, w0] h Q) := R_getf (show mx_at 74 33 = some (.getfield 105, 3) by decide +kernel) (mx_fdo ow74 fd110105)
set_option maxRecDepth 20000 in
theorem i74_36 : ex_ X d 74 36 [v0, .int x, v2] [w0, w1] h Q = ex_ X d 74 37 [v0, .int x, v2] [.int x, w0, w1] h Q := ex_nx (show mx_at 74 36 = some (.iload_n 1, 1) by decide +kernel) rfl
set_option maxRecDepth 20000 in
theorem i74_37 : ex_ X d 74 37 [v0, v1, v2] [.int i, .ref a, w0] h Q = (ik_ h a i = true ∧ ex_ X d 74 38 [v0, v1, v2] [.int (ia_ h a i), w0] h Q) := R_iald (show mx_at 74 37 = some (.iaload, 1) by decide +kernel)
set_option maxRecDepth 20000 in
theorem i74_38 : ex_ X d 74 38 [v0, v1, .int x] [w0, w1] h Q = ex_ X d 74 39 [v0, v1, .int x] [.int x, w0, w1] h Q := ex_nx (show mx_at 74 38 = some (.iload_n 2, 1) by decide +kernel) rfl
set_option maxRecDepth 20000 in
theorem i74_39 (hc : co_ h a = some 3) : ex_ X (d + 1) 74 39 [v0, v1, v2] [.int x1, .int x0, .ref a] h Q = ev_ X d 17 [.ref a, .int x0, .int x1] h (fun r h' => ex_ X (d + 1) 74 42 [v0, v1, v2] (r.toList ++ []) h' Q) := R_vir (show mx_at 74 39 = some (.invokevirtual 121, 3) by decide +kernel) (mx_clk ow74 cc11_121) (Nat.le_of_ble_eq_true rfl) rfl rfl hc rfl (Nat.le_of_ble_eq_true rfl) (Nat.le_of_ble_eq_true rfl) (by rw [ml17]; exact Nat.le_of_ble_eq_true rfl)
set_option maxRecDepth 20000 in
theorem i74_42 : ex_ X d 74 42 [v0, v1, v2] [.int x] h Q = if x = 0 then ex_ X d 74 49 [v0, v1, v2] [] h Q else ex_ X d 74 45 [v0, v1, v2] [] h Q := (R_br (show mx_at 74 42 = some (.ifCond .eq 7, 3) by decide +kernel) rfl rfl).trans mx_ite
set_option maxRecDepth 20000 in
theorem i74_45 : ex_ X d 74 45 [v0, v1, v2] [] h Q = ex_ X d 74 46 [v0, v1, v2] [.int 1] h Q := R_iconst (show mx_at 74 45 = some (.iconst 1, 1) by decide +kernel) (by decide)
set_option maxRecDepth 20000 in
theorem i74_46 : ex_ X d 74 46 [v0, v1, v2] [w0] h Q = ex_ X d 74 50 [v0, v1, v2] [w0] h Q := R_to (show mx_at 74 46 = some (.goto 4, 3) by decide +kernel) rfl rfl
set_option maxRecDepth 20000 in
theorem i74_49 : ex_ X d 74 49 [v0, v1, v2] [] h Q = ex_ X d 74 50 [v0, v1, v2] [.int 0] h Q := R_iconst (show mx_at 74 49 = some (.iconst 0, 1) by decide +kernel) (by decide)
set_option maxRecDepth 20000 in
theorem i74_50 : ex_ X d 74 50 [v0, v1, v2] [.int x] h Q = Q (some (.int x)) h := ex_ret (show mx_at 74 50 = some (.ireturn, 1) by decide +kernel) (mx_retI rt74)
theorem i74_e : ev_ X d 74 [.ref a, .int x0, .int x1] h Q = ex_ X d 74 0 [.ref a, .int x0, .int x1] [] h Q := by rw [ev_, ml74]; rfl
-- 75 X11_sort
set_option maxRecDepth 20000 in
theorem i75_0 : ex_ X d 75 0 [v0, .int x, v2, v3] [] h Q = ex_ X d 75 1 [v0, .int x, v2, v3] [.int x] h Q := ex_nx (show mx_at 75 0 = some (.iload_n 1, 1) by decide +kernel) rfl
set_option maxRecDepth 20000 in
theorem i75_1 : ex_ X d 75 1 [v0, v1, .int x, v3] [w0] h Q = ex_ X d 75 2 [v0, v1, .int x, v3] [.int x, w0] h Q := ex_nx (show mx_at 75 1 = some (.iload_n 2, 1) by decide +kernel) rfl
set_option maxRecDepth 20000 in
theorem i75_2 : ex_ X d 75 2 [v0, v1, v2, .int x] [w0, w1] h Q = ex_ X d 75 3 [v0, v1, v2, .int x] [.int x, w0, w1] h Q := ex_nx (show mx_at 75 2 = some (.iload_n 3, 1) by decide +kernel) rfl
set_option maxRecDepth 20000 in
theorem i75_3 : ex_ X (d + 1) 75 3 [v0, v1, v2, v3] [.int x2, .int x1, .int x0] h Q = ev_ X d 114 [.int x0, .int x1, .int x2] h (fun r h' => ex_ X (d + 1) 75 6 [v0, v1, v2, v3] (r.toList ++ []) h' Q) := R_stat (show mx_at 75 3 = some (.invokestatic 124, 3) by decide +kernel) (mx_clk ow75 cc11_124) (Nat.le_of_ble_eq_true rfl) rfl rfl (Nat.le_of_ble_eq_true rfl) ml114 (Nat.le_of_ble_eq_true rfl)
set_option maxRecDepth 20000 in
theorem i75_6 : ex_ X d 75 6 [v0, v1, v2, v3] [.int x] h Q = if ¬ x = 0 then ex_ X d 75 15 [v0, v1, v2, v3] [] h Q else ex_ X d 75 9 [v0, v1, v2, v3] [] h Q := (R_br (show mx_at 75 6 = some (.ifCond .ne 9, 3) by decide +kernel) rfl rfl).trans mx_ite
set_option maxRecDepth 20000 in
theorem i75_9 : ex_ X d 75 9 [.ref a, v1, v2, v3] [] h Q = ex_ X d 75 10 [.ref a, v1, v2, v3] [.ref a] h Q := ex_nx (show mx_at 75 9 = some (.aload_n 0, 1) by decide +kernel) rfl
set_option maxRecDepth 20000 in
theorem i75_10 : ex_ X d 75 10 [v0, v1, v2, v3] [w0] h Q = ex_ X d 75 11 [v0, v1, v2, v3] [.int 1, w0] h Q := R_iconst (show mx_at 75 10 = some (.iconst 1, 1) by decide +kernel) (by decide)
set_option maxRecDepth 20000 in
theorem i75_11 (hc : co_ h a = some 11) : ex_ X (d + 1) 75 11 [v0, v1, v2, v3] [.int x0, .ref a] h Q = ev_ X d 106 [.ref a, .int x0] h (fun r h' => ex_ X (d + 1) 75 14 [v0, v1, v2, v3] (r.toList ++ []) h' Q) := R_vir (show mx_at 75 11 = some (.invokevirtual 72, 3) by decide +kernel) (mx_clk ow75 cc11_72) (Nat.le_of_ble_eq_true rfl) rfl rfl hc rfl (Nat.le_of_ble_eq_true rfl) (Nat.le_of_ble_eq_true rfl) (by rw [ml106]; exact Nat.le_of_ble_eq_true rfl)
set_option maxRecDepth 20000 in
theorem i75_14 : ex_ X d 75 14 [v0, v1, v2, v3] [.int x] h Q = Q (some (.int x)) h := ex_ret (show mx_at 75 14 = some (.ireturn, 1) by decide +kernel) (mx_retI rt75)
set_option maxRecDepth 20000 in
theorem i75_15 : ex_ X d 75 15 [.ref a, v1, v2, v3] [] h Q = ex_ X d 75 16 [.ref a, v1, v2, v3] [.ref a] h Q := ex_nx (show mx_at 75 15 = some (.aload_n 0, 1) by decide +kernel) rfl
set_option maxRecDepth 20000 in
theorem i75_16 : ex_ X d 75 16 [v0, v1, v2, v3] [.ref a] h Q = (gk_ h a 0 [(11, 0)] = true ∧ ex_ X d 75 19 [v0, v1, v2, v3] [gv_ h a 0] h Q) := R_getf (show mx_at 75 16 = some (.getfield 12, 3) by decide +kernel) (mx_fdo ow75 fd110012)
set_option maxRecDepth 20000 in
theorem i75_19 : ex_ X d 75 19 [v0, v1, v2, v3] [.ref a] h Q = (gk_ h a 12 [(3, 0)] = true ∧ ex_ X d 75 22 [v0, v1, v2, v3] [gv_ h a 12] h Q) := R_getf (show mx_at 75 19 = some (.getfield 127, 3) by decide +kernel) (mx_fdo ow75 fd110127)
set_option maxRecDepth 20000 in
theorem i75_22 : ex_ X d 75 22 [v0, v1, v2, v3] [w0] h Q = ex_ X d 75 24 [v0, v1, v2, v3] [.int 8, w0] h Q := R_bipush (show mx_at 75 22 = some (.bipush 8, 2) by decide +kernel) (by decide)
set_option maxRecDepth 20000 in
theorem i75_24 : ex_ X d 75 24 [v0, v1, v2, v3] [.int y, .int x] h Q = if x < y then ex_ X d 75 33 [v0, v1, v2, v3] [] h Q else ex_ X d 75 27 [v0, v1, v2, v3] [] h Q := (R_br (show mx_at 75 24 = some (.if_icmp .lt 9, 3) by decide +kernel) rfl rfl).trans mx_ite
set_option maxRecDepth 20000 in
theorem i75_27 : ex_ X d 75 27 [.ref a, v1, v2, v3] [] h Q = ex_ X d 75 28 [.ref a, v1, v2, v3] [.ref a] h Q := ex_nx (show mx_at 75 27 = some (.aload_n 0, 1) by decide +kernel) rfl
set_option maxRecDepth 20000 in
theorem i75_28 : ex_ X d 75 28 [v0, v1, v2, v3] [w0] h Q = ex_ X d 75 29 [v0, v1, v2, v3] [.int 4, w0] h Q := R_iconst (show mx_at 75 28 = some (.iconst 4, 1) by decide +kernel) (by decide)
set_option maxRecDepth 20000 in
theorem i75_29 (hc : co_ h a = some 11) : ex_ X (d + 1) 75 29 [v0, v1, v2, v3] [.int x0, .ref a] h Q = ev_ X d 106 [.ref a, .int x0] h (fun r h' => ex_ X (d + 1) 75 32 [v0, v1, v2, v3] (r.toList ++ []) h' Q) := R_vir (show mx_at 75 29 = some (.invokevirtual 72, 3) by decide +kernel) (mx_clk ow75 cc11_72) (Nat.le_of_ble_eq_true rfl) rfl rfl hc rfl (Nat.le_of_ble_eq_true rfl) (Nat.le_of_ble_eq_true rfl) (by rw [ml106]; exact Nat.le_of_ble_eq_true rfl)
set_option maxRecDepth 20000 in
theorem i75_32 : ex_ X d 75 32 [v0, v1, v2, v3] [.int x] h Q = Q (some (.int x)) h := ex_ret (show mx_at 75 32 = some (.ireturn, 1) by decide +kernel) (mx_retI rt75)
set_option maxRecDepth 20000 in
theorem i75_33 : ex_ X d 75 33 [.ref a, v1, v2, v3] [] h Q = ex_ X d 75 34 [.ref a, v1, v2, v3] [.ref a] h Q := ex_nx (show mx_at 75 33 = some (.aload_n 0, 1) by decide +kernel) rfl
set_option maxRecDepth 20000 in
theorem i75_34 : ex_ X d 75 34 [v0, v1, v2, v3] [.ref a] h Q = (gk_ h a 0 [(11, 0)] = true ∧ ex_ X d 75 37 [v0, v1, v2, v3] [gv_ h a 0] h Q) := R_getf (show mx_at 75 34 = some (.getfield 12, 3) by decide +kernel) (mx_fdo ow75 fd110012)
set_option maxRecDepth 20000 in
theorem i75_37 : ex_ X d 75 37 [v0, .int x, v2, v3] [w0] h Q = ex_ X d 75 38 [v0, .int x, v2, v3] [.int x, w0] h Q := ex_nx (show mx_at 75 37 = some (.iload_n 1, 1) by decide +kernel) rfl
set_option maxRecDepth 20000 in
theorem i75_38 : ex_ X d 75 38 [v0, v1, .int x, v3] [w0, w1] h Q = ex_ X d 75 39 [v0, v1, .int x, v3] [.int x, w0, w1] h Q := ex_nx (show mx_at 75 38 = some (.iload_n 2, 1) by decide +kernel) rfl
set_option maxRecDepth 20000 in
theorem i75_39 : ex_ X d 75 39 [v0, v1, v2, .int x] [w0, w1, w2] h Q = ex_ X d 75 40 [v0, v1, v2, .int x] [.int x, w0, w1, w2] h Q := ex_nx (show mx_at 75 39 = some (.iload_n 3, 1) by decide +kernel) rfl
set_option maxRecDepth 20000 in
theorem i75_40 (hc : co_ h a = some 3) : ex_ X (d + 1) 75 40 [v0, v1, v2, v3] [.int x2, .int x1, .int x0, .ref a] h Q = ev_ X d 13 [.ref a, .int x0, .int x1, .int x2] h (fun r h' => ex_ X (d + 1) 75 43 [v0, v1, v2, v3] (r.toList ++ []) h' Q) := R_vir (show mx_at 75 40 = some (.invokevirtual 130, 3) by decide +kernel) (mx_clk ow75 cc11_130) (Nat.le_of_ble_eq_true rfl) rfl rfl hc rfl (Nat.le_of_ble_eq_true rfl) (Nat.le_of_ble_eq_true rfl) (by rw [ml13]; exact Nat.le_of_ble_eq_true rfl)
set_option maxRecDepth 20000 in
theorem i75_43 : ex_ X d 75 43 [v0, v1, v2, v3] [.int x] h Q = Q (some (.int x)) h := ex_ret (show mx_at 75 43 = some (.ireturn, 1) by decide +kernel) (mx_retI rt75)
theorem i75_e : ev_ X d 75 [.ref a, .int x0, .int x1, .int x2] h Q = ex_ X d 75 0 [.ref a, .int x0, .int x1, .int x2] [] h Q := by rw [ev_, ml75]; rfl
-- 76 X11_ofSort
set_option maxRecDepth 20000 in
theorem i76_0 : ex_ X d 76 0 [.ref a, v1, v2] [] h Q = ex_ X d 76 1 [.ref a, v1, v2] [.ref a] h Q := ex_nx (show mx_at 76 0 = some (.aload_n 0, 1) by decide +kernel) rfl
set_option maxRecDepth 20000 in
theorem i76_1 : ex_ X d 76 1 [v0, .int x, v2] [w0] h Q = ex_ X d 76 2 [v0, .int x, v2] [.int x, w0] h Q := ex_nx (show mx_at 76 1 = some (.iload_n 1, 1) by decide +kernel) rfl
set_option maxRecDepth 20000 in
theorem i76_2 (hc : co_ h a = some 11) : ex_ X (d + 1) 76 2 [v0, v1, v2] [.int x0, .ref a] h Q = ev_ X d 109 [.ref a, .int x0] h (fun r h' => ex_ X (d + 1) 76 5 [v0, v1, v2] (r.toList ++ []) h' Q) := R_vir (show mx_at 76 2 = some (.invokevirtual 134, 3) by decide +kernel) (mx_clk ow76 cc11_134) (Nat.le_of_ble_eq_true rfl) rfl rfl hc rfl (Nat.le_of_ble_eq_true rfl) (Nat.le_of_ble_eq_true rfl) (by rw [ml109]; exact Nat.le_of_ble_eq_true rfl)
set_option maxRecDepth 20000 in
theorem i76_5 : ex_ X d 76 5 [v0, v1, v2] [.int x] h Q = if ¬ x = 0 then ex_ X d 76 14 [v0, v1, v2] [] h Q else ex_ X d 76 8 [v0, v1, v2] [] h Q := (R_br (show mx_at 76 5 = some (.ifCond .ne 9, 3) by decide +kernel) rfl rfl).trans mx_ite
set_option maxRecDepth 20000 in
theorem i76_8 : ex_ X d 76 8 [.ref a, v1, v2] [] h Q = ex_ X d 76 9 [.ref a, v1, v2] [.ref a] h Q := ex_nx (show mx_at 76 8 = some (.aload_n 0, 1) by decide +kernel) rfl
set_option maxRecDepth 20000 in
theorem i76_9 : ex_ X d 76 9 [v0, v1, v2] [w0] h Q = ex_ X d 76 10 [v0, v1, v2] [.int 1, w0] h Q := R_iconst (show mx_at 76 9 = some (.iconst 1, 1) by decide +kernel) (by decide)
set_option maxRecDepth 20000 in
theorem i76_10 (hc : co_ h a = some 11) : ex_ X (d + 1) 76 10 [v0, v1, v2] [.int x0, .ref a] h Q = ev_ X d 106 [.ref a, .int x0] h (fun r h' => ex_ X (d + 1) 76 13 [v0, v1, v2] (r.toList ++ []) h' Q) := R_vir (show mx_at 76 10 = some (.invokevirtual 72, 3) by decide +kernel) (mx_clk ow76 cc11_72) (Nat.le_of_ble_eq_true rfl) rfl rfl hc rfl (Nat.le_of_ble_eq_true rfl) (Nat.le_of_ble_eq_true rfl) (by rw [ml106]; exact Nat.le_of_ble_eq_true rfl)
set_option maxRecDepth 20000 in
theorem i76_13 : ex_ X d 76 13 [v0, v1, v2] [.int x] h Q = Q (some (.int x)) h := ex_ret (show mx_at 76 13 = some (.ireturn, 1) by decide +kernel) (mx_retI rt76)
set_option maxRecDepth 20000 in
theorem i76_14 : ex_ X d 76 14 [v0, v1, .int x] [] h Q = ex_ X d 76 15 [v0, v1, .int x] [.int x] h Q := ex_nx (show mx_at 76 14 = some (.iload_n 2, 1) by decide +kernel) rfl
set_option maxRecDepth 20000 in
theorem i76_15_0 : ex_ X d 76 15 [v0, v1, v2] [.int 0] h Q = ex_ X d 76 48 [v0, v1, v2] [] h Q := R_tsw (off := 33) (show mx_at 76 15 = some (.tableswitch 82 0 4 #[33, 43, 53, 63, 73], 33) by decide +kernel) (by decide) rfl
set_option maxRecDepth 20000 in
theorem i76_15_1 : ex_ X d 76 15 [v0, v1, v2] [.int 1] h Q = ex_ X d 76 58 [v0, v1, v2] [] h Q := R_tsw (off := 43) (show mx_at 76 15 = some (.tableswitch 82 0 4 #[33, 43, 53, 63, 73], 33) by decide +kernel) (by decide) rfl
set_option maxRecDepth 20000 in
theorem i76_15_2 : ex_ X d 76 15 [v0, v1, v2] [.int 2] h Q = ex_ X d 76 68 [v0, v1, v2] [] h Q := R_tsw (off := 53) (show mx_at 76 15 = some (.tableswitch 82 0 4 #[33, 43, 53, 63, 73], 33) by decide +kernel) (by decide) rfl
set_option maxRecDepth 20000 in
theorem i76_15_3 : ex_ X d 76 15 [v0, v1, v2] [.int 3] h Q = ex_ X d 76 78 [v0, v1, v2] [] h Q := R_tsw (off := 63) (show mx_at 76 15 = some (.tableswitch 82 0 4 #[33, 43, 53, 63, 73], 33) by decide +kernel) (by decide) rfl
set_option maxRecDepth 20000 in
theorem i76_15_4 : ex_ X d 76 15 [v0, v1, v2] [.int 4] h Q = ex_ X d 76 88 [v0, v1, v2] [] h Q := R_tsw (off := 73) (show mx_at 76 15 = some (.tableswitch 82 0 4 #[33, 43, 53, 63, 73], 33) by decide +kernel) (by decide) rfl
set_option maxRecDepth 20000 in
theorem i76_15_d (hx : x.toInt < 0 ∨ 4 < x.toInt) : ex_ X d 76 15 [v0, v1, v2] [.int x] h Q = ex_ X d 76 97 [v0, v1, v2] [] h Q := R_tsw (off := 82) (show mx_at 76 15 = some (.tableswitch 82 0 4 #[33, 43, 53, 63, 73], 33) by decide +kernel) (if_pos hx) rfl
set_option maxRecDepth 20000 in
theorem i76_48 : ex_ X d 76 48 [.ref a, v1, v2] [] h Q = ex_ X d 76 49 [.ref a, v1, v2] [.ref a] h Q := ex_nx (show mx_at 76 48 = some (.aload_n 0, 1) by decide +kernel) rfl
set_option maxRecDepth 20000 in
theorem i76_49 : ex_ X d 76 49 [v0, v1, v2] [.ref a] h Q = (gk_ h a 0 [(11, 0)] = true ∧ ex_ X d 76 52 [v0, v1, v2] [gv_ h a 0] h Q) := R_getf (show mx_at 76 49 = some (.getfield 12, 3) by decide +kernel) (mx_fdo ow76 fd110012)
set_option maxRecDepth 20000 in
theorem i76_52 : ex_ X d 76 52 [v0, v1, v2] [.ref a] h Q = (gk_ h a 13 [(3, 0)] = true ∧ ex_ X d 76 55 [v0, v1, v2] [gv_ h a 13] h Q) := R_getf (show mx_at 76 52 = some (.getfield 137, 3) by decide +kernel) (mx_fdo ow76 fd110137)
set_option maxRecDepth 20000 in
theorem i76_55 : ex_ X d 76 55 [v0, .int x, v2] [w0] h Q = ex_ X d 76 56 [v0, .int x, v2] [.int x, w0] h Q := ex_nx (show mx_at 76 55 = some (.iload_n 1, 1) by decide +kernel) rfl
set_option maxRecDepth 20000 in
theorem i76_56 : ex_ X d 76 56 [v0, v1, v2] [.int i, .ref a] h Q = (ik_ h a i = true ∧ ex_ X d 76 57 [v0, v1, v2] [.int (ia_ h a i)] h Q) := R_iald (show mx_at 76 56 = some (.iaload, 1) by decide +kernel)
set_option maxRecDepth 20000 in
theorem i76_57 : ex_ X d 76 57 [v0, v1, v2] [.int x] h Q = Q (some (.int x)) h := ex_ret (show mx_at 76 57 = some (.ireturn, 1) by decide +kernel) (mx_retI rt76)
set_option maxRecDepth 20000 in
theorem i76_58 : ex_ X d 76 58 [.ref a, v1, v2] [] h Q = ex_ X d 76 59 [.ref a, v1, v2] [.ref a] h Q := ex_nx (show mx_at 76 58 = some (.aload_n 0, 1) by decide +kernel) rfl
set_option maxRecDepth 20000 in
theorem i76_59 : ex_ X d 76 59 [v0, v1, v2] [.ref a] h Q = (gk_ h a 0 [(11, 0)] = true ∧ ex_ X d 76 62 [v0, v1, v2] [gv_ h a 0] h Q) := R_getf (show mx_at 76 59 = some (.getfield 12, 3) by decide +kernel) (mx_fdo ow76 fd110012)
set_option maxRecDepth 20000 in
theorem i76_62 : ex_ X d 76 62 [v0, v1, v2] [.ref a] h Q = (gk_ h a 14 [(3, 0)] = true ∧ ex_ X d 76 65 [v0, v1, v2] [gv_ h a 14] h Q) := R_getf (show mx_at 76 62 = some (.getfield 140, 3) by decide +kernel) (mx_fdo ow76 fd110140)
set_option maxRecDepth 20000 in
theorem i76_65 : ex_ X d 76 65 [v0, .int x, v2] [w0] h Q = ex_ X d 76 66 [v0, .int x, v2] [.int x, w0] h Q := ex_nx (show mx_at 76 65 = some (.iload_n 1, 1) by decide +kernel) rfl
set_option maxRecDepth 20000 in
theorem i76_66 : ex_ X d 76 66 [v0, v1, v2] [.int i, .ref a] h Q = (ik_ h a i = true ∧ ex_ X d 76 67 [v0, v1, v2] [.int (ia_ h a i)] h Q) := R_iald (show mx_at 76 66 = some (.iaload, 1) by decide +kernel)
set_option maxRecDepth 20000 in
theorem i76_67 : ex_ X d 76 67 [v0, v1, v2] [.int x] h Q = Q (some (.int x)) h := ex_ret (show mx_at 76 67 = some (.ireturn, 1) by decide +kernel) (mx_retI rt76)
set_option maxRecDepth 20000 in
theorem i76_68 : ex_ X d 76 68 [.ref a, v1, v2] [] h Q = ex_ X d 76 69 [.ref a, v1, v2] [.ref a] h Q := ex_nx (show mx_at 76 68 = some (.aload_n 0, 1) by decide +kernel) rfl
set_option maxRecDepth 20000 in
theorem i76_69 : ex_ X d 76 69 [v0, v1, v2] [.ref a] h Q = (gk_ h a 0 [(11, 0)] = true ∧ ex_ X d 76 72 [v0, v1, v2] [gv_ h a 0] h Q) := R_getf (show mx_at 76 69 = some (.getfield 12, 3) by decide +kernel) (mx_fdo ow76 fd110012)
set_option maxRecDepth 20000 in
theorem i76_72 : ex_ X d 76 72 [v0, v1, v2] [.ref a] h Q = (gk_ h a 15 [(3, 0)] = true ∧ ex_ X d 76 75 [v0, v1, v2] [gv_ h a 15] h Q) := R_getf (show mx_at 76 72 = some (.getfield 143, 3) by decide +kernel) (mx_fdo ow76 fd110143)
set_option maxRecDepth 20000 in
theorem i76_75 : ex_ X d 76 75 [v0, .int x, v2] [w0] h Q = ex_ X d 76 76 [v0, .int x, v2] [.int x, w0] h Q := ex_nx (show mx_at 76 75 = some (.iload_n 1, 1) by decide +kernel) rfl
set_option maxRecDepth 20000 in
theorem i76_76 : ex_ X d 76 76 [v0, v1, v2] [.int i, .ref a] h Q = (ik_ h a i = true ∧ ex_ X d 76 77 [v0, v1, v2] [.int (ia_ h a i)] h Q) := R_iald (show mx_at 76 76 = some (.iaload, 1) by decide +kernel)
set_option maxRecDepth 20000 in
theorem i76_77 : ex_ X d 76 77 [v0, v1, v2] [.int x] h Q = Q (some (.int x)) h := ex_ret (show mx_at 76 77 = some (.ireturn, 1) by decide +kernel) (mx_retI rt76)
set_option maxRecDepth 20000 in
theorem i76_78 : ex_ X d 76 78 [.ref a, v1, v2] [] h Q = ex_ X d 76 79 [.ref a, v1, v2] [.ref a] h Q := ex_nx (show mx_at 76 78 = some (.aload_n 0, 1) by decide +kernel) rfl
set_option maxRecDepth 20000 in
theorem i76_79 : ex_ X d 76 79 [v0, v1, v2] [.ref a] h Q = (gk_ h a 0 [(11, 0)] = true ∧ ex_ X d 76 82 [v0, v1, v2] [gv_ h a 0] h Q) := R_getf (show mx_at 76 79 = some (.getfield 12, 3) by decide +kernel) (mx_fdo ow76 fd110012)
set_option maxRecDepth 20000 in
theorem i76_82 : ex_ X d 76 82 [v0, v1, v2] [.ref a] h Q = (gk_ h a 16 [(3, 0)] = true ∧ ex_ X d 76 85 [v0, v1, v2] [gv_ h a 16] h Q) := R_getf (show mx_at 76 82 = some (.getfield 146, 3) by decide +kernel) (mx_fdo ow76 fd110146)
set_option maxRecDepth 20000 in
theorem i76_85 : ex_ X d 76 85 [v0, .int x, v2] [w0] h Q = ex_ X d 76 86 [v0, .int x, v2] [.int x, w0] h Q := ex_nx (show mx_at 76 85 = some (.iload_n 1, 1) by decide +kernel) rfl
set_option maxRecDepth 20000 in
theorem i76_86 : ex_ X d 76 86 [v0, v1, v2] [.int i, .ref a] h Q = (ik_ h a i = true ∧ ex_ X d 76 87 [v0, v1, v2] [.int (ia_ h a i)] h Q) := R_iald (show mx_at 76 86 = some (.iaload, 1) by decide +kernel)
set_option maxRecDepth 20000 in
theorem i76_87 : ex_ X d 76 87 [v0, v1, v2] [.int x] h Q = Q (some (.int x)) h := ex_ret (show mx_at 76 87 = some (.ireturn, 1) by decide +kernel) (mx_retI rt76)
set_option maxRecDepth 20000 in
theorem i76_88 : ex_ X d 76 88 [.ref a, v1, v2] [] h Q = ex_ X d 76 89 [.ref a, v1, v2] [.ref a] h Q := ex_nx (show mx_at 76 88 = some (.aload_n 0, 1) by decide +kernel) rfl
set_option maxRecDepth 20000 in
theorem i76_89 : ex_ X d 76 89 [v0, v1, v2] [.ref a] h Q = (gk_ h a 0 [(11, 0)] = true ∧ ex_ X d 76 92 [v0, v1, v2] [gv_ h a 0] h Q) := R_getf (show mx_at 76 89 = some (.getfield 12, 3) by decide +kernel) (mx_fdo ow76 fd110012)
set_option maxRecDepth 20000 in
theorem i76_92 : ex_ X d 76 92 [v0, .int x, v2] [w0] h Q = ex_ X d 76 93 [v0, .int x, v2] [.int x, w0] h Q := ex_nx (show mx_at 76 92 = some (.iload_n 1, 1) by decide +kernel) rfl
set_option maxRecDepth 20000 in
theorem i76_93 (hc : co_ h a = some 3) : ex_ X (d + 1) 76 93 [v0, v1, v2] [.int x0, .ref a] h Q = ev_ X d 15 [.ref a, .int x0] h (fun r h' => ex_ X (d + 1) 76 96 [v0, v1, v2] (r.toList ++ []) h' Q) := R_vir (show mx_at 76 93 = some (.invokevirtual 149, 3) by decide +kernel) (mx_clk ow76 cc11_149) (Nat.le_of_ble_eq_true rfl) rfl rfl hc rfl (Nat.le_of_ble_eq_true rfl) (Nat.le_of_ble_eq_true rfl) (by rw [ml15]; exact Nat.le_of_ble_eq_true rfl)
set_option maxRecDepth 20000 in
theorem i76_96 : ex_ X d 76 96 [v0, v1, v2] [.int x] h Q = Q (some (.int x)) h := ex_ret (show mx_at 76 96 = some (.ireturn, 1) by decide +kernel) (mx_retI rt76)
set_option maxRecDepth 20000 in
theorem i76_97 : ex_ X d 76 97 [.ref a, v1, v2] [] h Q = ex_ X d 76 98 [.ref a, v1, v2] [.ref a] h Q := ex_nx (show mx_at 76 97 = some (.aload_n 0, 1) by decide +kernel) rfl
set_option maxRecDepth 20000 in
theorem i76_98 : ex_ X d 76 98 [v0, v1, v2] [w0] h Q = ex_ X d 76 99 [v0, v1, v2] [.int 1, w0] h Q := R_iconst (show mx_at 76 98 = some (.iconst 1, 1) by decide +kernel) (by decide)
set_option maxRecDepth 20000 in
theorem i76_99 (hc : co_ h a = some 11) : ex_ X (d + 1) 76 99 [v0, v1, v2] [.int x0, .ref a] h Q = ev_ X d 106 [.ref a, .int x0] h (fun r h' => ex_ X (d + 1) 76 102 [v0, v1, v2] (r.toList ++ []) h' Q) := R_vir (show mx_at 76 99 = some (.invokevirtual 72, 3) by decide +kernel) (mx_clk ow76 cc11_72) (Nat.le_of_ble_eq_true rfl) rfl rfl hc rfl (Nat.le_of_ble_eq_true rfl) (Nat.le_of_ble_eq_true rfl) (by rw [ml106]; exact Nat.le_of_ble_eq_true rfl)
set_option maxRecDepth 20000 in
theorem i76_102 : ex_ X d 76 102 [v0, v1, v2] [.int x] h Q = Q (some (.int x)) h := ex_ret (show mx_at 76 102 = some (.ireturn, 1) by decide +kernel) (mx_retI rt76)
theorem i76_e : ev_ X d 76 [.ref a, .int x0, .int x1] h Q = ex_ X d 76 0 [.ref a, .int x0, .int x1] [] h Q := by rw [ev_, ml76]; rfl
-- 77 X11_sorts
set_option maxRecDepth 20000 in
theorem i77_0 : ex_ X d 77 0 [v0, .int x, v2, v3, v4, v5] [] h Q = ex_ X d 77 1 [v0, .int x, v2, v3, v4, v5] [.int x] h Q := ex_nx (show mx_at 77 0 = some (.iload_n 1, 1) by decide +kernel) rfl
set_option maxRecDepth 20000 in
theorem i77_1 : ex_ X (d + 1) 77 1 [v0, v1, v2, v3, v4, v5] [.int x0] h Q = ev_ X d 110 [.int x0] h (fun r h' => ex_ X (d + 1) 77 4 [v0, v1, v2, v3, v4, v5] (r.toList ++ []) h' Q) := R_stat (show mx_at 77 1 = some (.invokestatic 152, 3) by decide +kernel) (mx_clk ow77 cc11_152) (Nat.le_of_ble_eq_true rfl) rfl rfl (Nat.le_of_ble_eq_true rfl) ml110 (Nat.le_of_ble_eq_true rfl)
set_option maxRecDepth 20000 in
theorem i77_4 : ex_ X d 77 4 [v0, v1, v2, v3, v4, v5] [.int x] h Q = if ¬ x = 0 then ex_ X d 77 13 [v0, v1, v2, v3, v4, v5] [] h Q else ex_ X d 77 7 [v0, v1, v2, v3, v4, v5] [] h Q := (R_br (show mx_at 77 4 = some (.ifCond .ne 9, 3) by decide +kernel) rfl rfl).trans mx_ite
set_option maxRecDepth 20000 in
theorem i77_7 : ex_ X d 77 7 [.ref a, v1, v2, v3, v4, v5] [] h Q = ex_ X d 77 8 [.ref a, v1, v2, v3, v4, v5] [.ref a] h Q := ex_nx (show mx_at 77 7 = some (.aload_n 0, 1) by decide +kernel) rfl
set_option maxRecDepth 20000 in
theorem i77_8 : ex_ X d 77 8 [v0, v1, v2, v3, v4, v5] [w0] h Q = ex_ X d 77 9 [v0, v1, v2, v3, v4, v5] [.int 1, w0] h Q := R_iconst (show mx_at 77 8 = some (.iconst 1, 1) by decide +kernel) (by decide)
set_option maxRecDepth 20000 in
theorem i77_9 (hc : co_ h a = some 11) : ex_ X (d + 1) 77 9 [v0, v1, v2, v3, v4, v5] [.int x0, .ref a] h Q = ev_ X d 106 [.ref a, .int x0] h (fun r h' => ex_ X (d + 1) 77 12 [v0, v1, v2, v3, v4, v5] (r.toList ++ []) h' Q) := R_vir (show mx_at 77 9 = some (.invokevirtual 72, 3) by decide +kernel) (mx_clk ow77 cc11_72) (Nat.le_of_ble_eq_true rfl) rfl rfl hc rfl (Nat.le_of_ble_eq_true rfl) (Nat.le_of_ble_eq_true rfl) (by rw [ml106]; exact Nat.le_of_ble_eq_true rfl)
set_option maxRecDepth 20000 in
theorem i77_12 : ex_ X d 77 12 [v0, v1, v2, v3, v4, v5] [.int x] h Q = Q (some (.int x)) h := ex_ret (show mx_at 77 12 = some (.ireturn, 1) by decide +kernel) (mx_retI rt77)
set_option maxRecDepth 20000 in
theorem i77_13 : ex_ X d 77 13 [.ref a, v1, v2, v3, v4, v5] [] h Q = ex_ X d 77 14 [.ref a, v1, v2, v3, v4, v5] [.ref a] h Q := ex_nx (show mx_at 77 13 = some (.aload_n 0, 1) by decide +kernel) rfl
set_option maxRecDepth 20000 in
theorem i77_14 : ex_ X d 77 14 [v0, v1, v2, v3, v4, v5] [.ref a] h Q = (gk_ h a 10 [(11, 0)] = true ∧ ex_ X d 77 17 [v0, v1, v2, v3, v4, v5] [gv_ h a 10] h Q) := R_getf (show mx_at 77 14 = some (.getfield 46, 3) by decide +kernel) (mx_fdo ow77 fd110046)
set_option maxRecDepth 20000 in
theorem i77_17 : ex_ X d 77 17 [v0, .int x, v2, v3, v4, v5] [w0] h Q = ex_ X d 77 18 [v0, .int x, v2, v3, v4, v5] [.int x, w0] h Q := ex_nx (show mx_at 77 17 = some (.iload_n 1, 1) by decide +kernel) rfl
set_option maxRecDepth 20000 in
theorem i77_18 : ex_ X d 77 18 [v0, v1, v2, v3, v4, v5] [.int i, .ref a] h Q = (rk_ h a i = true ∧ ex_ X d 77 19 [v0, v1, v2, v3, v4, v5] [mx_vr (ra_ h a i)] h Q) := R_aald (show mx_at 77 18 = some (.aaload, 1) by decide +kernel)
set_option maxRecDepth 20000 in
theorem i77_19 : ex_ X d 77 19 [v0, v1, v2, v3, v4, v5] [.ref a] h Q = (mx_nl v1 = true ∧ ex_ X d 77 20 [v0, v1, .ref a, v3, v4, v5] [] h Q) := mx_t1 (R_st (ok := mx_isA) (n := 2) (w := 1) (show mx_at 77 19 = some (.astore_n 2, 1) by decide +kernel) (fun _ _ => rfl) (Nat.le_of_ble_eq_true rfl)) rfl
set_option maxRecDepth 20000 in
theorem i77_20 : ex_ X d 77 20 [v0, v1, .ref a, v3, v4, v5] [] h Q = ex_ X d 77 21 [v0, v1, .ref a, v3, v4, v5] [.ref a] h Q := ex_nx (show mx_at 77 20 = some (.aload_n 2, 1) by decide +kernel) rfl
set_option maxRecDepth 20000 in
theorem i77_21 (hc : co_ h a = some 7) : ex_ X (d + 1) 77 21 [v0, v1, v2, v3, v4, v5] [.ref a] h Q = ev_ X d 48 [.ref a] h (fun r h' => ex_ X (d + 1) 77 24 [v0, v1, v2, v3, v4, v5] (r.toList ++ []) h' Q) := R_vir (show mx_at 77 21 = some (.invokevirtual 155, 3) by decide +kernel) (mx_clk ow77 cc11_155) (Nat.le_of_ble_eq_true rfl) rfl rfl hc rfl (Nat.le_of_ble_eq_true rfl) (Nat.le_of_ble_eq_true rfl) (by rw [ml48]; exact Nat.le_of_ble_eq_true rfl)
set_option maxRecDepth 20000 in
theorem i77_24 : ex_ X d 77 24 [v0, v1, v2, v3, v4, v5] [.int x] h Q = if x = 0 then ex_ X d 77 33 [v0, v1, v2, v3, v4, v5] [] h Q else ex_ X d 77 27 [v0, v1, v2, v3, v4, v5] [] h Q := (R_br (show mx_at 77 24 = some (.ifCond .eq 9, 3) by decide +kernel) rfl rfl).trans mx_ite
set_option maxRecDepth 20000 in
theorem i77_27 : ex_ X d 77 27 [.ref a, v1, v2, v3, v4, v5] [] h Q = ex_ X d 77 28 [.ref a, v1, v2, v3, v4, v5] [.ref a] h Q := ex_nx (show mx_at 77 27 = some (.aload_n 0, 1) by decide +kernel) rfl
set_option maxRecDepth 20000 in
theorem i77_28 : ex_ X d 77 28 [v0, v1, v2, v3, v4, v5] [w0] h Q = ex_ X d 77 29 [v0, v1, v2, v3, v4, v5] [.int 2, w0] h Q := R_iconst (show mx_at 77 28 = some (.iconst 2, 1) by decide +kernel) (by decide)
set_option maxRecDepth 20000 in
theorem i77_29 (hc : co_ h a = some 11) : ex_ X (d + 1) 77 29 [v0, v1, v2, v3, v4, v5] [.int x0, .ref a] h Q = ev_ X d 106 [.ref a, .int x0] h (fun r h' => ex_ X (d + 1) 77 32 [v0, v1, v2, v3, v4, v5] (r.toList ++ []) h' Q) := R_vir (show mx_at 77 29 = some (.invokevirtual 72, 3) by decide +kernel) (mx_clk ow77 cc11_72) (Nat.le_of_ble_eq_true rfl) rfl rfl hc rfl (Nat.le_of_ble_eq_true rfl) (Nat.le_of_ble_eq_true rfl) (by rw [ml106]; exact Nat.le_of_ble_eq_true rfl)
set_option maxRecDepth 20000 in
theorem i77_32 : ex_ X d 77 32 [v0, v1, v2, v3, v4, v5] [.int x] h Q = Q (some (.int x)) h := ex_ret (show mx_at 77 32 = some (.ireturn, 1) by decide +kernel) (mx_retI rt77)
set_option maxRecDepth 20000 in
theorem i77_33 : ex_ X d 77 33 [v0, v1, .ref a, v3, v4, v5] [] h Q = ex_ X d 77 34 [v0, v1, .ref a, v3, v4, v5] [.ref a] h Q := ex_nx (show mx_at 77 33 = some (.aload_n 2, 1) by decide +kernel) rfl
set_option maxRecDepth 20000 in
theorem i77_34 : ex_ X d 77 34 [v0, v1, v2, v3, v4, v5] [.ref a] h Q = (gk_ h a 0 [(7, 0)] = true ∧ ex_ X d 77 37 [v0, v1, v2, v3, v4, v5] [gv_ h a 0] h Q) := R_getf (show mx_at 77 34 = some (.getfield 159, 3) by decide +kernel) (mx_fdo ow77 fd110159)
set_option maxRecDepth 20000 in
theorem i77_37 : ex_ X d 77 37 [v0, v1, v2, v3, v4, v5] [.ref a] h Q = (mx_nl v2 = true ∧ ex_ X d 77 38 [v0, v1, v2, .ref a, v4, v5] [] h Q) := mx_t1 (R_st (ok := mx_isA) (n := 3) (w := 1) (show mx_at 77 37 = some (.astore_n 3, 1) by decide +kernel) (fun _ _ => rfl) (Nat.le_of_ble_eq_true rfl)) rfl
set_option maxRecDepth 20000 in
theorem i77_38 : ex_ X d 77 38 [v0, v1, v2, v3, v4, v5] [] h Q = ex_ X d 77 39 [v0, v1, v2, v3, v4, v5] [.int 0] h Q := R_iconst (show mx_at 77 38 = some (.iconst 0, 1) by decide +kernel) (by decide)
set_option maxRecDepth 20000 in
theorem i77_39 : ex_ X d 77 39 [v0, v1, v2, v3, v4, v5] [.int x] h Q = (mx_nl v3 = true ∧ ex_ X d 77 41 [v0, v1, v2, v3, .int x, v5] [] h Q) := mx_t1 (R_st (ok := mx_isI) (n := 4) (w := 2) (show mx_at 77 39 = some (.istore 4, 2) by decide +kernel) (fun _ _ => rfl) (Nat.le_of_ble_eq_true rfl)) rfl
set_option maxRecDepth 20000 in
theorem i77_41 : ex_ X d 77 41 [v0, v1, v2, v3, v4, v5] [] h Q = ex_ X d 77 42 [v0, v1, v2, v3, v4, v5] [.int 0] h Q := R_iconst (show mx_at 77 41 = some (.iconst 0, 1) by decide +kernel) (by decide)
set_option maxRecDepth 20000 in
theorem i77_42 : ex_ X d 77 42 [v0, v1, v2, v3, v4, v5] [.int x] h Q = (mx_nl v4 = true ∧ ex_ X d 77 44 [v0, v1, v2, v3, v4, .int x] [] h Q) := mx_t1 (R_st (ok := mx_isI) (n := 5) (w := 2) (show mx_at 77 42 = some (.istore 5, 2) by decide +kernel) (fun _ _ => rfl) (Nat.le_of_ble_eq_true rfl)) rfl
set_option maxRecDepth 20000 in
theorem i77_44 : ex_ X d 77 44 [v0, v1, v2, v3, v4, .int x] [] h Q = ex_ X d 77 46 [v0, v1, v2, v3, v4, .int x] [.int x] h Q := ex_nx (show mx_at 77 44 = some (.iload 5, 2) by decide +kernel) rfl
set_option maxRecDepth 20000 in
theorem i77_46 : ex_ X d 77 46 [v0, v1, v2, v3, v4, v5] [w0] h Q = ex_ X d 77 47 [v0, v1, v2, v3, v4, v5] [.int 3, w0] h Q := R_iconst (show mx_at 77 46 = some (.iconst 3, 1) by decide +kernel) (by decide)
set_option maxRecDepth 20000 in
theorem i77_47 : ex_ X d 77 47 [v0, v1, v2, v3, v4, v5] [.int y, .int x] h Q = ex_ X d 77 48 [v0, v1, v2, v3, v4, v5] [.int (x + y)] h Q := ex_nx (show mx_at 77 47 = some (.iadd, 1) by decide +kernel) rfl
set_option maxRecDepth 20000 in
theorem i77_48 : ex_ X d 77 48 [v0, v1, .ref a, v3, v4, v5] [w0] h Q = ex_ X d 77 49 [v0, v1, .ref a, v3, v4, v5] [.ref a, w0] h Q := ex_nx (show mx_at 77 48 = some (.aload_n 2, 1) by decide +kernel) rfl
set_option maxRecDepth 20000 in
theorem i77_49 : ex_ X d 77 49 [v0, v1, v2, v3, v4, v5] [.ref a, w0] h Q = (gk_ h a 2 [(7, 0)] = true ∧ ex_ X d 77 52 [v0, v1, v2, v3, v4, v5] [gv_ h a 2, w0] h Q) := R_getf (show mx_at 77 49 = some (.getfield 161, 3) by decide +kernel) (mx_fdo ow77 fd110161)
set_option maxRecDepth 20000 in
theorem i77_52 : ex_ X d 77 52 [v0, v1, v2, v3, v4, v5] [.int y, .int x] h Q = if y < x then ex_ X d 77 125 [v0, v1, v2, v3, v4, v5] [] h Q else ex_ X d 77 55 [v0, v1, v2, v3, v4, v5] [] h Q := (R_br (show mx_at 77 52 = some (.if_icmp .gt 73, 3) by decide +kernel) rfl rfl).trans mx_ite
set_option maxRecDepth 20000 in
theorem i77_55 : ex_ X d 77 55 [.ref a, v1, v2, v3, v4, v5] [] h Q = ex_ X d 77 56 [.ref a, v1, v2, v3, v4, v5] [.ref a] h Q := ex_nx (show mx_at 77 55 = some (.aload_n 0, 1) by decide +kernel) rfl
set_option maxRecDepth 20000 in
theorem i77_56 : ex_ X d 77 56 [v0, v1, v2, v3, v4, v5] [.ref a] h Q = (gk_ h a 0 [(11, 0)] = true ∧ ex_ X d 77 59 [v0, v1, v2, v3, v4, v5] [gv_ h a 0] h Q) := R_getf (show mx_at 77 56 = some (.getfield 12, 3) by decide +kernel) (mx_fdo ow77 fd110012)
set_option maxRecDepth 20000 in
theorem i77_59 : ex_ X d 77 59 [v0, v1, v2, v3, v4, v5] [.ref a] h Q = (gk_ h a 12 [(3, 0)] = true ∧ ex_ X d 77 62 [v0, v1, v2, v3, v4, v5] [gv_ h a 12] h Q) := R_getf (show mx_at 77 59 = some (.getfield 127, 3) by decide +kernel) (mx_fdo ow77 fd110127)
set_option maxRecDepth 20000 in
theorem i77_62 : ex_ X d 77 62 [v0, v1, v2, v3, v4, v5] [w0] h Q = ex_ X d 77 64 [v0, v1, v2, v3, v4, v5] [.int 8, w0] h Q := R_bipush (show mx_at 77 62 = some (.bipush 8, 2) by decide +kernel) (by decide)
set_option maxRecDepth 20000 in
theorem i77_64 : ex_ X d 77 64 [v0, v1, v2, v3, v4, v5] [.int y, .int x] h Q = if y ≤ x then ex_ X d 77 125 [v0, v1, v2, v3, v4, v5] [] h Q else ex_ X d 77 67 [v0, v1, v2, v3, v4, v5] [] h Q := (R_br (show mx_at 77 64 = some (.if_icmp .ge 61, 3) by decide +kernel) rfl rfl).trans mx_ite
set_option maxRecDepth 20000 in
theorem i77_67 : ex_ X d 77 67 [v0, v1, v2, .ref a, v4, v5] [] h Q = ex_ X d 77 68 [v0, v1, v2, .ref a, v4, v5] [.ref a] h Q := ex_nx (show mx_at 77 67 = some (.aload_n 3, 1) by decide +kernel) rfl
set_option maxRecDepth 20000 in
theorem i77_68 : ex_ X d 77 68 [v0, v1, v2, v3, v4, .int x] [w0] h Q = ex_ X d 77 70 [v0, v1, v2, v3, v4, .int x] [.int x, w0] h Q := ex_nx (show mx_at 77 68 = some (.iload 5, 2) by decide +kernel) rfl
set_option maxRecDepth 20000 in
theorem i77_70 : ex_ X d 77 70 [v0, v1, v2, v3, v4, v5] [.int i, .ref a] h Q = (ik_ h a i = true ∧ ex_ X d 77 71 [v0, v1, v2, v3, v4, v5] [.int (ia_ h a i)] h Q) := R_iald (show mx_at 77 70 = some (.iaload, 1) by decide +kernel)
set_option maxRecDepth 20000 in
theorem i77_71 : ex_ X d 77 71 [v0, v1, v2, .ref a, v4, v5] [w0] h Q = ex_ X d 77 72 [v0, v1, v2, .ref a, v4, v5] [.ref a, w0] h Q := ex_nx (show mx_at 77 71 = some (.aload_n 3, 1) by decide +kernel) rfl
set_option maxRecDepth 20000 in
theorem i77_72 : ex_ X d 77 72 [v0, v1, v2, v3, v4, .int x] [w0, w1] h Q = ex_ X d 77 74 [v0, v1, v2, v3, v4, .int x] [.int x, w0, w1] h Q := ex_nx (show mx_at 77 72 = some (.iload 5, 2) by decide +kernel) rfl
set_option maxRecDepth 20000 in
theorem i77_74 : ex_ X d 77 74 [v0, v1, v2, v3, v4, v5] [w0, w1, w2] h Q = ex_ X d 77 75 [v0, v1, v2, v3, v4, v5] [.int 1, w0, w1, w2] h Q := R_iconst (show mx_at 77 74 = some (.iconst 1, 1) by decide +kernel) (by decide)
set_option maxRecDepth 20000 in
theorem i77_75 : ex_ X d 77 75 [v0, v1, v2, v3, v4, v5] [.int y, .int x, w0, w1] h Q = ex_ X d 77 76 [v0, v1, v2, v3, v4, v5] [.int (x + y), w0, w1] h Q := ex_nx (show mx_at 77 75 = some (.iadd, 1) by decide +kernel) rfl
set_option maxRecDepth 20000 in
theorem i77_76 : ex_ X d 77 76 [v0, v1, v2, v3, v4, v5] [.int i, .ref a, w0] h Q = (ik_ h a i = true ∧ ex_ X d 77 77 [v0, v1, v2, v3, v4, v5] [.int (ia_ h a i), w0] h Q) := R_iald (show mx_at 77 76 = some (.iaload, 1) by decide +kernel)
set_option maxRecDepth 20000 in
theorem i77_77 : ex_ X d 77 77 [v0, v1, v2, .ref a, v4, v5] [w0, w1] h Q = ex_ X d 77 78 [v0, v1, v2, .ref a, v4, v5] [.ref a, w0, w1] h Q := ex_nx (show mx_at 77 77 = some (.aload_n 3, 1) by decide +kernel) rfl
set_option maxRecDepth 20000 in
theorem i77_78 : ex_ X d 77 78 [v0, v1, v2, v3, v4, .int x] [w0, w1, w2] h Q = ex_ X d 77 80 [v0, v1, v2, v3, v4, .int x] [.int x, w0, w1, w2] h Q := ex_nx (show mx_at 77 78 = some (.iload 5, 2) by decide +kernel) rfl
set_option maxRecDepth 20000 in
theorem i77_80 : ex_ X d 77 80 [v0, v1, v2, v3, v4, v5] [w0, w1, w2, w3] h Q = ex_ X d 77 81 [v0, v1, v2, v3, v4, v5] [.int 2, w0, w1, w2, w3] h Q := R_iconst (show mx_at 77 80 = some (.iconst 2, 1) by decide +kernel) (by decide)
set_option maxRecDepth 20000 in
theorem i77_81 : ex_ X d 77 81 [v0, v1, v2, v3, v4, v5] [.int y, .int x, w0, w1, w2] h Q = ex_ X d 77 82 [v0, v1, v2, v3, v4, v5] [.int (x + y), w0, w1, w2] h Q := ex_nx (show mx_at 77 81 = some (.iadd, 1) by decide +kernel) rfl
set_option maxRecDepth 20000 in
theorem i77_82 : ex_ X d 77 82 [v0, v1, v2, v3, v4, v5] [.int i, .ref a, w0, w1] h Q = (ik_ h a i = true ∧ ex_ X d 77 83 [v0, v1, v2, v3, v4, v5] [.int (ia_ h a i), w0, w1] h Q) := R_iald (show mx_at 77 82 = some (.iaload, 1) by decide +kernel)
set_option maxRecDepth 20000 in
theorem i77_83 : ex_ X (d + 1) 77 83 [v0, v1, v2, v3, v4, v5] [.int x2, .int x1, .int x0] h Q = ev_ X d 114 [.int x0, .int x1, .int x2] h (fun r h' => ex_ X (d + 1) 77 86 [v0, v1, v2, v3, v4, v5] (r.toList ++ []) h' Q) := R_stat (show mx_at 77 83 = some (.invokestatic 124, 3) by decide +kernel) (mx_clk ow77 cc11_124) (Nat.le_of_ble_eq_true rfl) rfl rfl (Nat.le_of_ble_eq_true rfl) ml114 (Nat.le_of_ble_eq_true rfl)
set_option maxRecDepth 20000 in
theorem i77_86 : ex_ X d 77 86 [v0, v1, v2, v3, v4, v5] [.int x] h Q = if ¬ x = 0 then ex_ X d 77 92 [v0, v1, v2, v3, v4, v5] [] h Q else ex_ X d 77 89 [v0, v1, v2, v3, v4, v5] [] h Q := (R_br (show mx_at 77 86 = some (.ifCond .ne 6, 3) by decide +kernel) rfl rfl).trans mx_ite
set_option maxRecDepth 20000 in
theorem i77_89 : ex_ X d 77 89 [v0, v1, v2, v3, v4, v5] [] h Q = ex_ X d 77 125 [v0, v1, v2, v3, v4, v5] [] h Q := R_to (show mx_at 77 89 = some (.goto 36, 3) by decide +kernel) rfl rfl
set_option maxRecDepth 20000 in
theorem i77_92 : ex_ X d 77 92 [.ref a, v1, v2, v3, v4, v5] [] h Q = ex_ X d 77 93 [.ref a, v1, v2, v3, v4, v5] [.ref a] h Q := ex_nx (show mx_at 77 92 = some (.aload_n 0, 1) by decide +kernel) rfl
set_option maxRecDepth 20000 in
theorem i77_93 : ex_ X d 77 93 [v0, v1, v2, v3, v4, v5] [.ref a] h Q = (gk_ h a 0 [(11, 0)] = true ∧ ex_ X d 77 96 [v0, v1, v2, v3, v4, v5] [gv_ h a 0] h Q) := R_getf (show mx_at 77 93 = some (.getfield 12, 3) by decide +kernel) (mx_fdo ow77 fd110012)
set_option maxRecDepth 20000 in
theorem i77_96 : ex_ X d 77 96 [v0, v1, v2, .ref a, v4, v5] [w0] h Q = ex_ X d 77 97 [v0, v1, v2, .ref a, v4, v5] [.ref a, w0] h Q := ex_nx (show mx_at 77 96 = some (.aload_n 3, 1) by decide +kernel) rfl
set_option maxRecDepth 20000 in
theorem i77_97 : ex_ X d 77 97 [v0, v1, v2, v3, v4, .int x] [w0, w1] h Q = ex_ X d 77 99 [v0, v1, v2, v3, v4, .int x] [.int x, w0, w1] h Q := ex_nx (show mx_at 77 97 = some (.iload 5, 2) by decide +kernel) rfl
set_option maxRecDepth 20000 in
theorem i77_99 : ex_ X d 77 99 [v0, v1, v2, v3, v4, v5] [.int i, .ref a, w0] h Q = (ik_ h a i = true ∧ ex_ X d 77 100 [v0, v1, v2, v3, v4, v5] [.int (ia_ h a i), w0] h Q) := R_iald (show mx_at 77 99 = some (.iaload, 1) by decide +kernel)
set_option maxRecDepth 20000 in
theorem i77_100 : ex_ X d 77 100 [v0, v1, v2, .ref a, v4, v5] [w0, w1] h Q = ex_ X d 77 101 [v0, v1, v2, .ref a, v4, v5] [.ref a, w0, w1] h Q := ex_nx (show mx_at 77 100 = some (.aload_n 3, 1) by decide +kernel) rfl
set_option maxRecDepth 20000 in
theorem i77_101 : ex_ X d 77 101 [v0, v1, v2, v3, v4, .int x] [w0, w1, w2] h Q = ex_ X d 77 103 [v0, v1, v2, v3, v4, .int x] [.int x, w0, w1, w2] h Q := ex_nx (show mx_at 77 101 = some (.iload 5, 2) by decide +kernel) rfl
set_option maxRecDepth 20000 in
theorem i77_103 : ex_ X d 77 103 [v0, v1, v2, v3, v4, v5] [w0, w1, w2, w3] h Q = ex_ X d 77 104 [v0, v1, v2, v3, v4, v5] [.int 1, w0, w1, w2, w3] h Q := R_iconst (show mx_at 77 103 = some (.iconst 1, 1) by decide +kernel) (by decide)
set_option maxRecDepth 20000 in
theorem i77_104 : ex_ X d 77 104 [v0, v1, v2, v3, v4, v5] [.int y, .int x, w0, w1, w2] h Q = ex_ X d 77 105 [v0, v1, v2, v3, v4, v5] [.int (x + y), w0, w1, w2] h Q := ex_nx (show mx_at 77 104 = some (.iadd, 1) by decide +kernel) rfl
set_option maxRecDepth 20000 in
theorem i77_105 : ex_ X d 77 105 [v0, v1, v2, v3, v4, v5] [.int i, .ref a, w0, w1] h Q = (ik_ h a i = true ∧ ex_ X d 77 106 [v0, v1, v2, v3, v4, v5] [.int (ia_ h a i), w0, w1] h Q) := R_iald (show mx_at 77 105 = some (.iaload, 1) by decide +kernel)
set_option maxRecDepth 20000 in
theorem i77_106 : ex_ X d 77 106 [v0, v1, v2, .ref a, v4, v5] [w0, w1, w2] h Q = ex_ X d 77 107 [v0, v1, v2, .ref a, v4, v5] [.ref a, w0, w1, w2] h Q := ex_nx (show mx_at 77 106 = some (.aload_n 3, 1) by decide +kernel) rfl
set_option maxRecDepth 20000 in
theorem i77_107 : ex_ X d 77 107 [v0, v1, v2, v3, v4, .int x] [w0, w1, w2, w3] h Q = ex_ X d 77 109 [v0, v1, v2, v3, v4, .int x] [.int x, w0, w1, w2, w3] h Q := ex_nx (show mx_at 77 107 = some (.iload 5, 2) by decide +kernel) rfl
set_option maxRecDepth 20000 in
theorem i77_109 : ex_ X d 77 109 [v0, v1, v2, v3, v4, v5] [w0, w1, w2, w3, w4] h Q = ex_ X d 77 110 [v0, v1, v2, v3, v4, v5] [.int 2, w0, w1, w2, w3, w4] h Q := R_iconst (show mx_at 77 109 = some (.iconst 2, 1) by decide +kernel) (by decide)
set_option maxRecDepth 20000 in
theorem i77_110 : ex_ X d 77 110 [v0, v1, v2, v3, v4, v5] [.int y, .int x, w0, w1, w2, w3] h Q = ex_ X d 77 111 [v0, v1, v2, v3, v4, v5] [.int (x + y), w0, w1, w2, w3] h Q := ex_nx (show mx_at 77 110 = some (.iadd, 1) by decide +kernel) rfl
set_option maxRecDepth 20000 in
theorem i77_111 : ex_ X d 77 111 [v0, v1, v2, v3, v4, v5] [.int i, .ref a, w0, w1, w2] h Q = (ik_ h a i = true ∧ ex_ X d 77 112 [v0, v1, v2, v3, v4, v5] [.int (ia_ h a i), w0, w1, w2] h Q) := R_iald (show mx_at 77 111 = some (.iaload, 1) by decide +kernel)
set_option maxRecDepth 20000 in
theorem i77_112 (hc : co_ h a = some 3) : ex_ X (d + 1) 77 112 [v0, v1, v2, v3, v4, v5] [.int x2, .int x1, .int x0, .ref a] h Q = ev_ X d 13 [.ref a, .int x0, .int x1, .int x2] h (fun r h' => ex_ X (d + 1) 77 115 [v0, v1, v2, v3, v4, v5] (r.toList ++ []) h' Q) := R_vir (show mx_at 77 112 = some (.invokevirtual 130, 3) by decide +kernel) (mx_clk ow77 cc11_130) (Nat.le_of_ble_eq_true rfl) rfl rfl hc rfl (Nat.le_of_ble_eq_true rfl) (Nat.le_of_ble_eq_true rfl) (by rw [ml13]; exact Nat.le_of_ble_eq_true rfl)
set_option maxRecDepth 20000 in
theorem i77_115 : ex_ X d 77 115 [v0, v1, v2, v3, v4, v5] [.int x] h Q = ex_ X d 77 116 [v0, v1, v2, v3, v4, v5] [] h Q := ex_nx (show mx_at 77 115 = some (.pop, 1) by decide +kernel) rfl
set_option maxRecDepth 20000 in
theorem i77_116 : ex_ X d 77 116 [v0, v1, v2, v3, .int x, v5] [] h Q = (mx_nl v3 = true ∧ ex_ X d 77 119 [v0, v1, v2, v3, .int (x + 1), v5] [] h Q) := R_iinc (n := 4) (c := 1) (show mx_at 77 116 = some (.iinc 4 1, 3) by decide +kernel) rfl
set_option maxRecDepth 20000 in
theorem i77_119 : ex_ X d 77 119 [v0, v1, v2, v3, v4, .int x] [] h Q = (mx_nl v4 = true ∧ ex_ X d 77 122 [v0, v1, v2, v3, v4, .int (x + 3)] [] h Q) := R_iinc (n := 5) (c := 3) (show mx_at 77 119 = some (.iinc 5 3, 3) by decide +kernel) rfl
set_option maxRecDepth 20000 in
theorem i77_122 : ex_ X d 77 122 [v0, v1, v2, v3, v4, v5] [] h Q = ex_ X d 77 44 [v0, v1, v2, v3, v4, v5] [] h Q := R_to (show mx_at 77 122 = some (.goto (-78), 3) by decide +kernel) rfl rfl
set_option maxRecDepth 20000 in
theorem i77_125 : ex_ X d 77 125 [v0, v1, v2, v3, .int x, v5] [] h Q = ex_ X d 77 127 [v0, v1, v2, v3, .int x, v5] [.int x] h Q := ex_nx (show mx_at 77 125 = some (.iload 4, 2) by decide +kernel) rfl
set_option maxRecDepth 20000 in
theorem i77_127 : ex_ X d 77 127 [v0, v1, v2, v3, v4, v5] [.int x] h Q = Q (some (.int x)) h := ex_ret (show mx_at 77 127 = some (.ireturn, 1) by decide +kernel) (mx_retI rt77)
theorem i77_e : ev_ X d 77 [.ref a, .int x0] h Q = ex_ X d 77 0 [.ref a, .int x0, .double 0, .double 0, .double 0, .double 0] [] h Q := by rw [ev_, ml77]; rfl
-- 78 X11_now
set_option maxRecDepth 20000 in
theorem i78_0 : ex_ X d 78 0 [v0, .int x, v2, v3] [] h Q = ex_ X d 78 1 [v0, .int x, v2, v3] [.int x] h Q := ex_nx (show mx_at 78 0 = some (.iload_n 1, 1) by decide +kernel) rfl
set_option maxRecDepth 20000 in
theorem i78_1 : ex_ X d 78 1 [v0, v1, .int x, v3] [w0] h Q = ex_ X d 78 2 [v0, v1, .int x, v3] [.int x, w0] h Q := ex_nx (show mx_at 78 1 = some (.iload_n 2, 1) by decide +kernel) rfl
set_option maxRecDepth 20000 in
theorem i78_2 : ex_ X (d + 1) 78 2 [v0, v1, v2, v3] [.int x1, .int x0] h Q = ev_ X d 116 [.int x0, .int x1] h (fun r h' => ex_ X (d + 1) 78 5 [v0, v1, v2, v3] (r.toList ++ []) h' Q) := R_stat (show mx_at 78 2 = some (.invokestatic 164, 3) by decide +kernel) (mx_clk ow78 cc11_164) (Nat.le_of_ble_eq_true rfl) rfl rfl (Nat.le_of_ble_eq_true rfl) ml116 (Nat.le_of_ble_eq_true rfl)
set_option maxRecDepth 20000 in
theorem i78_5 : ex_ X d 78 5 [v0, v1, v2, v3] [.int x] h Q = if ¬ x = 0 then ex_ X d 78 14 [v0, v1, v2, v3] [] h Q else ex_ X d 78 8 [v0, v1, v2, v3] [] h Q := (R_br (show mx_at 78 5 = some (.ifCond .ne 9, 3) by decide +kernel) rfl rfl).trans mx_ite
set_option maxRecDepth 20000 in
theorem i78_8 : ex_ X d 78 8 [.ref a, v1, v2, v3] [] h Q = ex_ X d 78 9 [.ref a, v1, v2, v3] [.ref a] h Q := ex_nx (show mx_at 78 8 = some (.aload_n 0, 1) by decide +kernel) rfl
set_option maxRecDepth 20000 in
theorem i78_9 : ex_ X d 78 9 [v0, v1, v2, v3] [w0] h Q = ex_ X d 78 10 [v0, v1, v2, v3] [.int 1, w0] h Q := R_iconst (show mx_at 78 9 = some (.iconst 1, 1) by decide +kernel) (by decide)
set_option maxRecDepth 20000 in
theorem i78_10 (hc : co_ h a = some 11) : ex_ X (d + 1) 78 10 [v0, v1, v2, v3] [.int x0, .ref a] h Q = ev_ X d 106 [.ref a, .int x0] h (fun r h' => ex_ X (d + 1) 78 13 [v0, v1, v2, v3] (r.toList ++ []) h' Q) := R_vir (show mx_at 78 10 = some (.invokevirtual 72, 3) by decide +kernel) (mx_clk ow78 cc11_72) (Nat.le_of_ble_eq_true rfl) rfl rfl hc rfl (Nat.le_of_ble_eq_true rfl) (Nat.le_of_ble_eq_true rfl) (by rw [ml106]; exact Nat.le_of_ble_eq_true rfl)
set_option maxRecDepth 20000 in
theorem i78_13 : ex_ X d 78 13 [v0, v1, v2, v3] [.int x] h Q = Q (some (.int x)) h := ex_ret (show mx_at 78 13 = some (.ireturn, 1) by decide +kernel) (mx_retI rt78)
set_option maxRecDepth 20000 in
theorem i78_14 : ex_ X d 78 14 [v0, .int x, v2, v3] [] h Q = ex_ X d 78 15 [v0, .int x, v2, v3] [.int x] h Q := ex_nx (show mx_at 78 14 = some (.iload_n 1, 1) by decide +kernel) rfl
set_option maxRecDepth 20000 in
theorem i78_15 : ex_ X d 78 15 [v0, v1, v2, v3] [.int x] h Q = if ¬ x = 0 then ex_ X d 78 37 [v0, v1, v2, v3] [] h Q else ex_ X d 78 18 [v0, v1, v2, v3] [] h Q := (R_br (show mx_at 78 15 = some (.ifCond .ne 22, 3) by decide +kernel) rfl rfl).trans mx_ite
set_option maxRecDepth 20000 in
theorem i78_18 : ex_ X d 78 18 [.ref a, v1, v2, v3] [] h Q = ex_ X d 78 19 [.ref a, v1, v2, v3] [.ref a] h Q := ex_nx (show mx_at 78 18 = some (.aload_n 0, 1) by decide +kernel) rfl
set_option maxRecDepth 20000 in
theorem i78_19 : ex_ X d 78 19 [v0, v1, v2, v3] [.ref a] h Q = (gk_ h a 0 [(11, 0)] = true ∧ ex_ X d 78 22 [v0, v1, v2, v3] [gv_ h a 0] h Q) := R_getf (show mx_at 78 19 = some (.getfield 12, 3) by decide +kernel) (mx_fdo ow78 fd110012)
set_option maxRecDepth 20000 in
theorem i78_22 : ex_ X d 78 22 [v0, v1, v2, v3] [.ref a] h Q = (gk_ h a 1 [(3, 0)] = true ∧ ex_ X d 78 25 [v0, v1, v2, v3] [gv_ h a 1] h Q) := R_getf (show mx_at 78 22 = some (.getfield 167, 3) by decide +kernel) (mx_fdo ow78 fd110167)
set_option maxRecDepth 20000 in
theorem i78_25 : ex_ X d 78 25 [v0, v1, v2, v3] [.int x] h Q = (mx_nl v2 = true ∧ ex_ X d 78 26 [v0, v1, v2, .int x] [] h Q) := mx_t1 (R_st (ok := mx_isI) (n := 3) (w := 1) (show mx_at 78 25 = some (.istore_n 3, 1) by decide +kernel) (fun _ _ => rfl) (Nat.le_of_ble_eq_true rfl)) rfl
set_option maxRecDepth 20000 in
theorem i78_26 : ex_ X d 78 26 [.ref a, v1, v2, v3] [] h Q = ex_ X d 78 27 [.ref a, v1, v2, v3] [.ref a] h Q := ex_nx (show mx_at 78 26 = some (.aload_n 0, 1) by decide +kernel) rfl
set_option maxRecDepth 20000 in
theorem i78_27 : ex_ X d 78 27 [v0, v1, v2, v3] [.ref a] h Q = (gk_ h a 0 [(11, 0)] = true ∧ ex_ X d 78 30 [v0, v1, v2, v3] [gv_ h a 0] h Q) := R_getf (show mx_at 78 27 = some (.getfield 12, 3) by decide +kernel) (mx_fdo ow78 fd110012)
set_option maxRecDepth 20000 in
theorem i78_30 : ex_ X d 78 30 [v0, v1, .int x, v3] [w0] h Q = ex_ X d 78 31 [v0, v1, .int x, v3] [.int x, w0] h Q := ex_nx (show mx_at 78 30 = some (.iload_n 2, 1) by decide +kernel) rfl
set_option maxRecDepth 20000 in
theorem i78_31 : ex_ X d 78 31 [v0, v1, v2, v3] [w, .ref a] h Q = (pk_ 78 h a 1 w [(3, 0)] = true ∧ ex_ X d 78 34 [v0, v1, v2, v3] [] (pf_ h a 1 w) Q) := R_putf (show mx_at 78 31 = some (.putfield 167, 3) by decide +kernel) (mx_fdo ow78 fd110167)
set_option maxRecDepth 20000 in
theorem i78_34 : ex_ X d 78 34 [v0, v1, v2, v3] [] h Q = ex_ X d 78 85 [v0, v1, v2, v3] [] h Q := R_to (show mx_at 78 34 = some (.goto 51, 3) by decide +kernel) rfl rfl
set_option maxRecDepth 20000 in
theorem i78_37 : ex_ X d 78 37 [v0, .int x, v2, v3] [] h Q = ex_ X d 78 38 [v0, .int x, v2, v3] [.int x] h Q := ex_nx (show mx_at 78 37 = some (.iload_n 1, 1) by decide +kernel) rfl
set_option maxRecDepth 20000 in
theorem i78_38 : ex_ X d 78 38 [v0, v1, v2, v3] [w0] h Q = ex_ X d 78 39 [v0, v1, v2, v3] [.int 3, w0] h Q := R_iconst (show mx_at 78 38 = some (.iconst 3, 1) by decide +kernel) (by decide)
set_option maxRecDepth 20000 in
theorem i78_39 : ex_ X d 78 39 [v0, v1, v2, v3] [.int y, .int x] h Q = if y < x then ex_ X d 78 69 [v0, v1, v2, v3] [] h Q else ex_ X d 78 42 [v0, v1, v2, v3] [] h Q := (R_br (show mx_at 78 39 = some (.if_icmp .gt 30, 3) by decide +kernel) rfl rfl).trans mx_ite
set_option maxRecDepth 20000 in
theorem i78_42 : ex_ X d 78 42 [.ref a, v1, v2, v3] [] h Q = ex_ X d 78 43 [.ref a, v1, v2, v3] [.ref a] h Q := ex_nx (show mx_at 78 42 = some (.aload_n 0, 1) by decide +kernel) rfl
set_option maxRecDepth 20000 in
theorem i78_43 : ex_ X d 78 43 [v0, v1, v2, v3] [.ref a] h Q = (gk_ h a 0 [(11, 0)] = true ∧ ex_ X d 78 46 [v0, v1, v2, v3] [gv_ h a 0] h Q) := R_getf (show mx_at 78 43 = some (.getfield 12, 3) by decide +kernel) (mx_fdo ow78 fd110012)
set_option maxRecDepth 20000 in
theorem i78_46 : ex_ X d 78 46 [v0, v1, v2, v3] [.ref a] h Q = (gk_ h a 4 [(3, 0)] = true ∧ ex_ X d 78 49 [v0, v1, v2, v3] [gv_ h a 4] h Q) := R_getf (show mx_at 78 46 = some (.getfield 170, 3) by decide +kernel) (mx_fdo ow78 fd110170)
set_option maxRecDepth 20000 in
theorem i78_49 : ex_ X d 78 49 [v0, .int x, v2, v3] [w0] h Q = ex_ X d 78 50 [v0, .int x, v2, v3] [.int x, w0] h Q := ex_nx (show mx_at 78 49 = some (.iload_n 1, 1) by decide +kernel) rfl
set_option maxRecDepth 20000 in
theorem i78_50 : ex_ X d 78 50 [v0, v1, v2, v3] [w0, w1] h Q = ex_ X d 78 51 [v0, v1, v2, v3] [.int 1, w0, w1] h Q := R_iconst (show mx_at 78 50 = some (.iconst 1, 1) by decide +kernel) (by decide)
set_option maxRecDepth 20000 in
theorem i78_51 : ex_ X d 78 51 [v0, v1, v2, v3] [.int y, .int x, w0] h Q = ex_ X d 78 52 [v0, v1, v2, v3] [.int (x - y), w0] h Q := ex_nx (show mx_at 78 51 = some (.isub, 1) by decide +kernel) rfl
set_option maxRecDepth 20000 in
theorem i78_52 : ex_ X d 78 52 [v0, v1, v2, v3] [.int i, .ref a] h Q = (ik_ h a i = true ∧ ex_ X d 78 53 [v0, v1, v2, v3] [.int (ia_ h a i)] h Q) := R_iald (show mx_at 78 52 = some (.iaload, 1) by decide +kernel)
set_option maxRecDepth 20000 in
theorem i78_53 : ex_ X d 78 53 [v0, v1, v2, v3] [.int x] h Q = (mx_nl v2 = true ∧ ex_ X d 78 54 [v0, v1, v2, .int x] [] h Q) := mx_t1 (R_st (ok := mx_isI) (n := 3) (w := 1) (show mx_at 78 53 = some (.istore_n 3, 1) by decide +kernel) (fun _ _ => rfl) (Nat.le_of_ble_eq_true rfl)) rfl
set_option maxRecDepth 20000 in
theorem i78_54 : ex_ X d 78 54 [.ref a, v1, v2, v3] [] h Q = ex_ X d 78 55 [.ref a, v1, v2, v3] [.ref a] h Q := ex_nx (show mx_at 78 54 = some (.aload_n 0, 1) by decide +kernel) rfl
set_option maxRecDepth 20000 in
theorem i78_55 : ex_ X d 78 55 [v0, v1, v2, v3] [.ref a] h Q = (gk_ h a 0 [(11, 0)] = true ∧ ex_ X d 78 58 [v0, v1, v2, v3] [gv_ h a 0] h Q) := R_getf (show mx_at 78 55 = some (.getfield 12, 3) by decide +kernel) (mx_fdo ow78 fd110012)
set_option maxRecDepth 20000 in
theorem i78_58 : ex_ X d 78 58 [v0, v1, v2, v3] [.ref a] h Q = (gk_ h a 4 [(3, 0)] = true ∧ ex_ X d 78 61 [v0, v1, v2, v3] [gv_ h a 4] h Q) := R_getf (show mx_at 78 58 = some (.getfield 170, 3) by decide +kernel) (mx_fdo ow78 fd110170)
set_option maxRecDepth 20000 in
theorem i78_61 : ex_ X d 78 61 [v0, .int x, v2, v3] [w0] h Q = ex_ X d 78 62 [v0, .int x, v2, v3] [.int x, w0] h Q := ex_nx (show mx_at 78 61 = some (.iload_n 1, 1) by decide +kernel) rfl
set_option maxRecDepth 20000 in
theorem i78_62 : ex_ X d 78 62 [v0, v1, v2, v3] [w0, w1] h Q = ex_ X d 78 63 [v0, v1, v2, v3] [.int 1, w0, w1] h Q := R_iconst (show mx_at 78 62 = some (.iconst 1, 1) by decide +kernel) (by decide)
set_option maxRecDepth 20000 in
theorem i78_63 : ex_ X d 78 63 [v0, v1, v2, v3] [.int y, .int x, w0] h Q = ex_ X d 78 64 [v0, v1, v2, v3] [.int (x - y), w0] h Q := ex_nx (show mx_at 78 63 = some (.isub, 1) by decide +kernel) rfl
set_option maxRecDepth 20000 in
theorem i78_64 : ex_ X d 78 64 [v0, v1, .int x, v3] [w0, w1] h Q = ex_ X d 78 65 [v0, v1, .int x, v3] [.int x, w0, w1] h Q := ex_nx (show mx_at 78 64 = some (.iload_n 2, 1) by decide +kernel) rfl
set_option maxRecDepth 20000 in
theorem i78_65 : ex_ X d 78 65 [v0, v1, v2, v3] [.int x, .int i, .ref a] h Q = (ik_ h a i = true ∧ ex_ X d 78 66 [v0, v1, v2, v3] [] (is_ h a i x) Q) := R_iast (show mx_at 78 65 = some (.iastore, 1) by decide +kernel)
set_option maxRecDepth 20000 in
theorem i78_66 : ex_ X d 78 66 [v0, v1, v2, v3] [] h Q = ex_ X d 78 85 [v0, v1, v2, v3] [] h Q := R_to (show mx_at 78 66 = some (.goto 19, 3) by decide +kernel) rfl rfl
set_option maxRecDepth 20000 in
theorem i78_69 : ex_ X d 78 69 [.ref a, v1, v2, v3] [] h Q = ex_ X d 78 70 [.ref a, v1, v2, v3] [.ref a] h Q := ex_nx (show mx_at 78 69 = some (.aload_n 0, 1) by decide +kernel) rfl
set_option maxRecDepth 20000 in
theorem i78_70 : ex_ X d 78 70 [v0, v1, v2, v3] [.ref a] h Q = (gk_ h a 0 [(11, 0)] = true ∧ ex_ X d 78 73 [v0, v1, v2, v3] [gv_ h a 0] h Q) := R_getf (show mx_at 78 70 = some (.getfield 12, 3) by decide +kernel) (mx_fdo ow78 fd110012)
set_option maxRecDepth 20000 in
theorem i78_73 : ex_ X d 78 73 [v0, v1, v2, v3] [.ref a] h Q = (gk_ h a 2 [(3, 0)] = true ∧ ex_ X d 78 76 [v0, v1, v2, v3] [gv_ h a 2] h Q) := R_getf (show mx_at 78 73 = some (.getfield 173, 3) by decide +kernel) (mx_fdo ow78 fd110173)
set_option maxRecDepth 20000 in
theorem i78_76 : ex_ X d 78 76 [v0, v1, v2, v3] [.int x] h Q = (mx_nl v2 = true ∧ ex_ X d 78 77 [v0, v1, v2, .int x] [] h Q) := mx_t1 (R_st (ok := mx_isI) (n := 3) (w := 1) (show mx_at 78 76 = some (.istore_n 3, 1) by decide +kernel) (fun _ _ => rfl) (Nat.le_of_ble_eq_true rfl)) rfl
set_option maxRecDepth 20000 in
theorem i78_77 : ex_ X d 78 77 [.ref a, v1, v2, v3] [] h Q = ex_ X d 78 78 [.ref a, v1, v2, v3] [.ref a] h Q := ex_nx (show mx_at 78 77 = some (.aload_n 0, 1) by decide +kernel) rfl
set_option maxRecDepth 20000 in
theorem i78_78 : ex_ X d 78 78 [v0, v1, v2, v3] [.ref a] h Q = (gk_ h a 0 [(11, 0)] = true ∧ ex_ X d 78 81 [v0, v1, v2, v3] [gv_ h a 0] h Q) := R_getf (show mx_at 78 78 = some (.getfield 12, 3) by decide +kernel) (mx_fdo ow78 fd110012)
set_option maxRecDepth 20000 in
theorem i78_81 : ex_ X d 78 81 [v0, v1, .int x, v3] [w0] h Q = ex_ X d 78 82 [v0, v1, .int x, v3] [.int x, w0] h Q := ex_nx (show mx_at 78 81 = some (.iload_n 2, 1) by decide +kernel) rfl
set_option maxRecDepth 20000 in
theorem i78_82 : ex_ X d 78 82 [v0, v1, v2, v3] [w, .ref a] h Q = (pk_ 78 h a 2 w [(3, 0)] = true ∧ ex_ X d 78 85 [v0, v1, v2, v3] [] (pf_ h a 2 w) Q) := R_putf (show mx_at 78 82 = some (.putfield 173, 3) by decide +kernel) (mx_fdo ow78 fd110173)
set_option maxRecDepth 20000 in
theorem i78_85 : ex_ X d 78 85 [v0, v1, v2, .int x] [] h Q = ex_ X d 78 86 [v0, v1, v2, .int x] [.int x] h Q := ex_nx (show mx_at 78 85 = some (.iload_n 3, 1) by decide +kernel) rfl
set_option maxRecDepth 20000 in
theorem i78_86 : ex_ X d 78 86 [v0, v1, v2, v3] [.int x] h Q = Q (some (.int x)) h := ex_ret (show mx_at 78 86 = some (.ireturn, 1) by decide +kernel) (mx_retI rt78)
theorem i78_e : ev_ X d 78 [.ref a, .int x0, .int x1] h Q = ex_ X d 78 0 [.ref a, .int x0, .int x1, .double 0] [] h Q := by rw [ev_, ml78]; rfl
-- 79 X11_feed
set_option maxRecDepth 20000 in
theorem i79_0 : ex_ X d 79 0 [v0, v1, v2, .int x, v4] [] h Q = ex_ X d 79 1 [v0, v1, v2, .int x, v4] [.int x] h Q := ex_nx (show mx_at 79 0 = some (.iload_n 3, 1) by decide +kernel) rfl
set_option maxRecDepth 20000 in
theorem i79_1 : ex_ X d 79 1 [v0, v1, v2, v3, v4] [w0] h Q = ex_ X d 79 2 [v0, v1, v2, v3, v4] [.int 1, w0] h Q := R_iconst (show mx_at 79 1 = some (.iconst 1, 1) by decide +kernel) (by decide)
set_option maxRecDepth 20000 in
theorem i79_2 : ex_ X d 79 2 [v0, v1, v2, v3, v4] [w0, w1] h Q = ex_ X d 79 4 [v0, v1, v2, v3, v4] [.int 8, w0, w1] h Q := R_bipush (show mx_at 79 2 = some (.bipush 8, 2) by decide +kernel) (by decide)
set_option maxRecDepth 20000 in
theorem i79_4 : ex_ X (d + 1) 79 4 [v0, v1, v2, v3, v4] [.int x2, .int x1, .int x0] h Q = ev_ X d 107 [.int x0, .int x1, .int x2] h (fun r h' => ex_ X (d + 1) 79 7 [v0, v1, v2, v3, v4] (r.toList ++ []) h' Q) := R_stat (show mx_at 79 4 = some (.invokestatic 68, 3) by decide +kernel) (mx_clk ow79 cc11_68) (Nat.le_of_ble_eq_true rfl) rfl rfl (Nat.le_of_ble_eq_true rfl) ml107 (Nat.le_of_ble_eq_true rfl)
set_option maxRecDepth 20000 in
theorem i79_7 : ex_ X d 79 7 [v0, v1, v2, v3, v4] [.int x] h Q = if ¬ x = 0 then ex_ X d 79 16 [v0, v1, v2, v3, v4] [] h Q else ex_ X d 79 10 [v0, v1, v2, v3, v4] [] h Q := (R_br (show mx_at 79 7 = some (.ifCond .ne 9, 3) by decide +kernel) rfl rfl).trans mx_ite
set_option maxRecDepth 20000 in
theorem i79_10 : ex_ X d 79 10 [.ref a, v1, v2, v3, v4] [] h Q = ex_ X d 79 11 [.ref a, v1, v2, v3, v4] [.ref a] h Q := ex_nx (show mx_at 79 10 = some (.aload_n 0, 1) by decide +kernel) rfl
set_option maxRecDepth 20000 in
theorem i79_11 : ex_ X d 79 11 [v0, v1, v2, v3, v4] [w0] h Q = ex_ X d 79 12 [v0, v1, v2, v3, v4] [.int 1, w0] h Q := R_iconst (show mx_at 79 11 = some (.iconst 1, 1) by decide +kernel) (by decide)
set_option maxRecDepth 20000 in
theorem i79_12 (hc : co_ h a = some 11) : ex_ X (d + 1) 79 12 [v0, v1, v2, v3, v4] [.int x0, .ref a] h Q = ev_ X d 106 [.ref a, .int x0] h (fun r h' => ex_ X (d + 1) 79 15 [v0, v1, v2, v3, v4] (r.toList ++ []) h' Q) := R_vir (show mx_at 79 12 = some (.invokevirtual 72, 3) by decide +kernel) (mx_clk ow79 cc11_72) (Nat.le_of_ble_eq_true rfl) rfl rfl hc rfl (Nat.le_of_ble_eq_true rfl) (Nat.le_of_ble_eq_true rfl) (by rw [ml106]; exact Nat.le_of_ble_eq_true rfl)
set_option maxRecDepth 20000 in
theorem i79_15 : ex_ X d 79 15 [v0, v1, v2, v3, v4] [.int x] h Q = Q (some (.int x)) h := ex_ret (show mx_at 79 15 = some (.ireturn, 1) by decide +kernel) (mx_retI rt79)
set_option maxRecDepth 20000 in
theorem i79_16 : ex_ X d 79 16 [.ref a, v1, v2, v3, v4] [] h Q = ex_ X d 79 17 [.ref a, v1, v2, v3, v4] [.ref a] h Q := ex_nx (show mx_at 79 16 = some (.aload_n 0, 1) by decide +kernel) rfl
set_option maxRecDepth 20000 in
theorem i79_17 : ex_ X d 79 17 [v0, v1, v2, v3, v4] [.ref a] h Q = (gk_ h a 1 [(11, 0)] = true ∧ ex_ X d 79 20 [v0, v1, v2, v3, v4] [gv_ h a 1] h Q) := R_getf (show mx_at 79 17 = some (.getfield 21, 3) by decide +kernel) (mx_fdo ow79 fd110021)
set_option maxRecDepth 20000 in
theorem i79_20 : ex_ X d 79 20 [v0, v1, v2, v3, v4] [.ref a] h Q = (gk_ h a 1 [(5, 0)] = true ∧ ex_ X d 79 23 [v0, v1, v2, v3, v4] [gv_ h a 1] h Q) := R_getf (show mx_at 79 20 = some (.getfield 176, 3) by decide +kernel) (mx_fdo ow79 fd110176)
set_option maxRecDepth 20000 in
theorem i79_23 : ex_ X d 79 23 [v0, v1, v2, .int x, v4] [w0] h Q = ex_ X d 79 24 [v0, v1, v2, .int x, v4] [.int x, w0] h Q := ex_nx (show mx_at 79 23 = some (.iload_n 3, 1) by decide +kernel) rfl
set_option maxRecDepth 20000 in
theorem i79_24 : ex_ X d 79 24 [v0, v1, v2, v3, v4] [.int y, .int x] h Q = ex_ X d 79 25 [v0, v1, v2, v3, v4] [.int (x + y)] h Q := ex_nx (show mx_at 79 24 = some (.iadd, 1) by decide +kernel) rfl
set_option maxRecDepth 20000 in
theorem i79_25 : ex_ X d 79 25 [v0, v1, v2, v3, v4] [w0] h Q = ex_ X d 79 27 [v0, v1, v2, v3, v4] [.int 50, w0] h Q := R_bipush (show mx_at 79 25 = some (.bipush 50, 2) by decide +kernel) (by decide)
set_option maxRecDepth 20000 in
theorem i79_27 : ex_ X d 79 27 [v0, v1, v2, v3, v4] [.int y, .int x] h Q = if x ≤ y then ex_ X d 79 36 [v0, v1, v2, v3, v4] [] h Q else ex_ X d 79 30 [v0, v1, v2, v3, v4] [] h Q := (R_br (show mx_at 79 27 = some (.if_icmp .le 9, 3) by decide +kernel) rfl rfl).trans mx_ite
set_option maxRecDepth 20000 in
theorem i79_30 : ex_ X d 79 30 [.ref a, v1, v2, v3, v4] [] h Q = ex_ X d 79 31 [.ref a, v1, v2, v3, v4] [.ref a] h Q := ex_nx (show mx_at 79 30 = some (.aload_n 0, 1) by decide +kernel) rfl
set_option maxRecDepth 20000 in
theorem i79_31 : ex_ X d 79 31 [v0, v1, v2, v3, v4] [w0] h Q = ex_ X d 79 32 [v0, v1, v2, v3, v4] [.int 4, w0] h Q := R_iconst (show mx_at 79 31 = some (.iconst 4, 1) by decide +kernel) (by decide)
set_option maxRecDepth 20000 in
theorem i79_32 (hc : co_ h a = some 11) : ex_ X (d + 1) 79 32 [v0, v1, v2, v3, v4] [.int x0, .ref a] h Q = ev_ X d 106 [.ref a, .int x0] h (fun r h' => ex_ X (d + 1) 79 35 [v0, v1, v2, v3, v4] (r.toList ++ []) h' Q) := R_vir (show mx_at 79 32 = some (.invokevirtual 72, 3) by decide +kernel) (mx_clk ow79 cc11_72) (Nat.le_of_ble_eq_true rfl) rfl rfl hc rfl (Nat.le_of_ble_eq_true rfl) (Nat.le_of_ble_eq_true rfl) (by rw [ml106]; exact Nat.le_of_ble_eq_true rfl)
set_option maxRecDepth 20000 in
theorem i79_35 : ex_ X d 79 35 [v0, v1, v2, v3, v4] [.int x] h Q = Q (some (.int x)) h := ex_ret (show mx_at 79 35 = some (.ireturn, 1) by decide +kernel) (mx_retI rt79)
set_option maxRecDepth 20000 in
theorem i79_36 : ex_ X d 79 36 [v0, v1, v2, v3, v4] [] h Q = ex_ X d 79 37 [v0, v1, v2, v3, v4] [.int 0] h Q := R_iconst (show mx_at 79 36 = some (.iconst 0, 1) by decide +kernel) (by decide)
set_option maxRecDepth 20000 in
theorem i79_37 : ex_ X d 79 37 [v0, v1, v2, v3, v4] [.int x] h Q = (mx_nl v3 = true ∧ ex_ X d 79 39 [v0, v1, v2, v3, .int x] [] h Q) := mx_t1 (R_st (ok := mx_isI) (n := 4) (w := 2) (show mx_at 79 37 = some (.istore 4, 2) by decide +kernel) (fun _ _ => rfl) (Nat.le_of_ble_eq_true rfl)) rfl
set_option maxRecDepth 20000 in
theorem i79_39 : ex_ X d 79 39 [v0, v1, v2, v3, .int x] [] h Q = ex_ X d 79 41 [v0, v1, v2, v3, .int x] [.int x] h Q := ex_nx (show mx_at 79 39 = some (.iload 4, 2) by decide +kernel) rfl
set_option maxRecDepth 20000 in
theorem i79_41 : ex_ X d 79 41 [v0, v1, v2, .int x, v4] [w0] h Q = ex_ X d 79 42 [v0, v1, v2, .int x, v4] [.int x, w0] h Q := ex_nx (show mx_at 79 41 = some (.iload_n 3, 1) by decide +kernel) rfl
set_option maxRecDepth 20000 in
theorem i79_42 : ex_ X d 79 42 [v0, v1, v2, v3, v4] [.int y, .int x] h Q = if y ≤ x then ex_ X d 79 71 [v0, v1, v2, v3, v4] [] h Q else ex_ X d 79 45 [v0, v1, v2, v3, v4] [] h Q := (R_br (show mx_at 79 42 = some (.if_icmp .ge 29, 3) by decide +kernel) rfl rfl).trans mx_ite
set_option maxRecDepth 20000 in
theorem i79_45 : ex_ X d 79 45 [.ref a, v1, v2, v3, v4] [] h Q = ex_ X d 79 46 [.ref a, v1, v2, v3, v4] [.ref a] h Q := ex_nx (show mx_at 79 45 = some (.aload_n 0, 1) by decide +kernel) rfl
set_option maxRecDepth 20000 in
theorem i79_46 : ex_ X d 79 46 [v0, v1, v2, v3, v4] [.ref a] h Q = (gk_ h a 1 [(11, 0)] = true ∧ ex_ X d 79 49 [v0, v1, v2, v3, v4] [gv_ h a 1] h Q) := R_getf (show mx_at 79 46 = some (.getfield 21, 3) by decide +kernel) (mx_fdo ow79 fd110021)
set_option maxRecDepth 20000 in
theorem i79_49 : ex_ X d 79 49 [v0, .long jx, v2, v3, v4] [w0] h Q = ex_ X d 79 50 [v0, .long jx, v2, v3, v4] [.long jx, w0] h Q := ex_nx (show mx_at 79 49 = some (.lload_n 1, 1) by decide +kernel) rfl
set_option maxRecDepth 20000 in
theorem i79_50 : ex_ X d 79 50 [v0, v1, v2, v3, v4] [w0, w1] h Q = ex_ X d 79 52 [v0, v1, v2, v3, v4] [.int 8, w0, w1] h Q := R_bipush (show mx_at 79 50 = some (.bipush 8, 2) by decide +kernel) (by decide)
set_option maxRecDepth 20000 in
theorem i79_52 : ex_ X d 79 52 [v0, v1, v2, v3, .int x] [w0, w1, w2] h Q = ex_ X d 79 54 [v0, v1, v2, v3, .int x] [.int x, w0, w1, w2] h Q := ex_nx (show mx_at 79 52 = some (.iload 4, 2) by decide +kernel) rfl
set_option maxRecDepth 20000 in
theorem i79_54 : ex_ X d 79 54 [v0, v1, v2, v3, v4] [.int y, .int x, w0, w1] h Q = ex_ X d 79 55 [v0, v1, v2, v3, v4] [.int (x * y), w0, w1] h Q := ex_nx (show mx_at 79 54 = some (.imul, 1) by decide +kernel) rfl
set_option maxRecDepth 20000 in
theorem i79_55 : ex_ X d 79 55 [v0, v1, v2, v3, v4] [.int y, .long jx, w0] h Q = ex_ X d 79 56 [v0, v1, v2, v3, v4] [.long ((jx.toUInt64 >>> (y.toInt64.toUInt64 &&& Int64.toUInt64 63)).toInt64), w0] h Q := ex_nx (show mx_at 79 55 = some (.lushr, 1) by decide +kernel) rfl
set_option maxRecDepth 20000 in
theorem i79_56 : ex_ X d 79 56 [v0, v1, v2, v3, v4] [.long jx, w0] h Q = ex_ X d 79 57 [v0, v1, v2, v3, v4] [.int jx.toInt32, w0] h Q := ex_nx (show mx_at 79 56 = some (.l2i, 1) by decide +kernel) rfl
set_option maxRecDepth 20000 in
theorem i79_57 : ex_ X d 79 57 [v0, v1, v2, v3, v4] [w0, w1] h Q = ex_ X d 79 60 [v0, v1, v2, v3, v4] [.int 255, w0, w1] h Q := R_sipush (show mx_at 79 57 = some (.sipush 255, 3) by decide +kernel) (by decide)
set_option maxRecDepth 20000 in
theorem i79_60 : ex_ X d 79 60 [v0, v1, v2, v3, v4] [.int y, .int x, w0] h Q = ex_ X d 79 61 [v0, v1, v2, v3, v4] [.int (x &&& y), w0] h Q := ex_nx (show mx_at 79 60 = some (.iand, 1) by decide +kernel) rfl
set_option maxRecDepth 20000 in
theorem i79_61 (hc : co_ h a = some 5) : ex_ X (d + 1) 79 61 [v0, v1, v2, v3, v4] [.int x0, .ref a] h Q = ev_ X d 36 [.ref a, .int x0] h (fun r h' => ex_ X (d + 1) 79 64 [v0, v1, v2, v3, v4] (r.toList ++ []) h' Q) := R_vir (show mx_at 79 61 = some (.invokevirtual 177, 3) by decide +kernel) (mx_clk ow79 cc11_177) (Nat.le_of_ble_eq_true rfl) rfl rfl hc rfl (Nat.le_of_ble_eq_true rfl) (Nat.le_of_ble_eq_true rfl) (by rw [ml36]; exact Nat.le_of_ble_eq_true rfl)
set_option maxRecDepth 20000 in
theorem i79_64 : ex_ X d 79 64 [v0, v1, v2, v3, v4] [.int x] h Q = ex_ X d 79 65 [v0, v1, v2, v3, v4] [] h Q := ex_nx (show mx_at 79 64 = some (.pop, 1) by decide +kernel) rfl
set_option maxRecDepth 20000 in
theorem i79_65 : ex_ X d 79 65 [v0, v1, v2, v3, .int x] [] h Q = (mx_nl v3 = true ∧ ex_ X d 79 68 [v0, v1, v2, v3, .int (x + 1)] [] h Q) := R_iinc (n := 4) (c := 1) (show mx_at 79 65 = some (.iinc 4 1, 3) by decide +kernel) rfl
set_option maxRecDepth 20000 in
theorem i79_68 : ex_ X d 79 68 [v0, v1, v2, v3, v4] [] h Q = ex_ X d 79 39 [v0, v1, v2, v3, v4] [] h Q := R_to (show mx_at 79 68 = some (.goto (-29), 3) by decide +kernel) rfl rfl
set_option maxRecDepth 20000 in
theorem i79_71 : ex_ X d 79 71 [.ref a, v1, v2, v3, v4] [] h Q = ex_ X d 79 72 [.ref a, v1, v2, v3, v4] [.ref a] h Q := ex_nx (show mx_at 79 71 = some (.aload_n 0, 1) by decide +kernel) rfl
set_option maxRecDepth 20000 in
theorem i79_72 : ex_ X d 79 72 [v0, v1, v2, v3, v4] [.ref a] h Q = (gk_ h a 1 [(11, 0)] = true ∧ ex_ X d 79 75 [v0, v1, v2, v3, v4] [gv_ h a 1] h Q) := R_getf (show mx_at 79 72 = some (.getfield 21, 3) by decide +kernel) (mx_fdo ow79 fd110021)
set_option maxRecDepth 20000 in
theorem i79_75 : ex_ X d 79 75 [v0, v1, v2, v3, v4] [.ref a] h Q = (gk_ h a 1 [(5, 0)] = true ∧ ex_ X d 79 78 [v0, v1, v2, v3, v4] [gv_ h a 1] h Q) := R_getf (show mx_at 79 75 = some (.getfield 176, 3) by decide +kernel) (mx_fdo ow79 fd110176)
set_option maxRecDepth 20000 in
theorem i79_78 : ex_ X d 79 78 [v0, v1, v2, v3, v4] [.int x] h Q = Q (some (.int x)) h := ex_ret (show mx_at 79 78 = some (.ireturn, 1) by decide +kernel) (mx_retI rt79)
theorem i79_e : ev_ X d 79 [.ref a, .long j0, .int x1] h Q = ex_ X d 79 0 [.ref a, .long j0, .double 0, .int x1, .double 0] [] h Q := by rw [ev_, ml79]; rfl
-- 80 X11_text
set_option maxRecDepth 20000 in
theorem i80_0 : ex_ X d 80 0 [v0, .int x, v2, v3] [] h Q = ex_ X d 80 1 [v0, .int x, v2, v3] [.int x] h Q := ex_nx (show mx_at 80 0 = some (.iload_n 1, 1) by decide +kernel) rfl
set_option maxRecDepth 20000 in
theorem i80_1 : ex_ X (d + 1) 80 1 [v0, v1, v2, v3] [.int x0] h Q = ev_ X d 111 [.int x0] h (fun r h' => ex_ X (d + 1) 80 4 [v0, v1, v2, v3] (r.toList ++ []) h' Q) := R_stat (show mx_at 80 1 = some (.invokestatic 180, 3) by decide +kernel) (mx_clk ow80 cc11_180) (Nat.le_of_ble_eq_true rfl) rfl rfl (Nat.le_of_ble_eq_true rfl) ml111 (Nat.le_of_ble_eq_true rfl)
set_option maxRecDepth 20000 in
theorem i80_4 : ex_ X d 80 4 [v0, v1, v2, v3] [.int x] h Q = if ¬ x = 0 then ex_ X d 80 13 [v0, v1, v2, v3] [] h Q else ex_ X d 80 7 [v0, v1, v2, v3] [] h Q := (R_br (show mx_at 80 4 = some (.ifCond .ne 9, 3) by decide +kernel) rfl rfl).trans mx_ite
set_option maxRecDepth 20000 in
theorem i80_7 : ex_ X d 80 7 [.ref a, v1, v2, v3] [] h Q = ex_ X d 80 8 [.ref a, v1, v2, v3] [.ref a] h Q := ex_nx (show mx_at 80 7 = some (.aload_n 0, 1) by decide +kernel) rfl
set_option maxRecDepth 20000 in
theorem i80_8 : ex_ X d 80 8 [v0, v1, v2, v3] [w0] h Q = ex_ X d 80 9 [v0, v1, v2, v3] [.int 1, w0] h Q := R_iconst (show mx_at 80 8 = some (.iconst 1, 1) by decide +kernel) (by decide)
set_option maxRecDepth 20000 in
theorem i80_9 (hc : co_ h a = some 11) : ex_ X (d + 1) 80 9 [v0, v1, v2, v3] [.int x0, .ref a] h Q = ev_ X d 106 [.ref a, .int x0] h (fun r h' => ex_ X (d + 1) 80 12 [v0, v1, v2, v3] (r.toList ++ []) h' Q) := R_vir (show mx_at 80 9 = some (.invokevirtual 72, 3) by decide +kernel) (mx_clk ow80 cc11_72) (Nat.le_of_ble_eq_true rfl) rfl rfl hc rfl (Nat.le_of_ble_eq_true rfl) (Nat.le_of_ble_eq_true rfl) (by rw [ml106]; exact Nat.le_of_ble_eq_true rfl)
set_option maxRecDepth 20000 in
theorem i80_12 : ex_ X d 80 12 [v0, v1, v2, v3] [.int x] h Q = Q (some (.int x)) h := ex_ret (show mx_at 80 12 = some (.ireturn, 1) by decide +kernel) (mx_retI rt80)
set_option maxRecDepth 20000 in
theorem i80_13 : ex_ X d 80 13 [v0, v1, v2, v3] [] h Q = ex_ X d 80 16 [v0, v1, v2, v3] [.ref h.length] (h ++ [.inr (10, [.null, .int 0, .null, .int 0, .null, .null, .null, .null, .int 0, .int 0])]) Q := R_new (show mx_at 80 13 = some (.new 183, 3) by decide +kernel) (mx_lko ow80 cl110183) rfl
set_option maxRecDepth 20000 in
theorem i80_16 : ex_ X d 80 16 [v0, v1, v2, v3] [.ref a] h Q = ex_ X d 80 17 [v0, v1, v2, v3] [.ref a, .ref a] h Q := ex_nx (show mx_at 80 16 = some (.dup, 1) by decide +kernel) rfl
set_option maxRecDepth 20000 in
theorem i80_17 : ex_ X d 80 17 [.ref a, v1, v2, v3] [w0, w1] h Q = ex_ X d 80 18 [.ref a, v1, v2, v3] [.ref a, w0, w1] h Q := ex_nx (show mx_at 80 17 = some (.aload_n 0, 1) by decide +kernel) rfl
set_option maxRecDepth 20000 in
theorem i80_18 : ex_ X d 80 18 [v0, v1, v2, v3] [.ref a, w0, w1] h Q = (gk_ h a 1 [(11, 0)] = true ∧ ex_ X d 80 21 [v0, v1, v2, v3] [gv_ h a 1, w0, w1] h Q) := R_getf (show mx_at 80 18 = some (.getfield 21, 3) by decide +kernel) (mx_fdo ow80 fd110021)
set_option maxRecDepth 20000 in
theorem i80_21 : ex_ X d 80 21 [v0, .int x, v2, v3] [w0, w1, w2] h Q = ex_ X d 80 22 [v0, .int x, v2, v3] [.int x, w0, w1, w2] h Q := ex_nx (show mx_at 80 21 = some (.iload_n 1, 1) by decide +kernel) rfl
set_option maxRecDepth 20000 in
theorem i80_22 : ex_ X (d + 1) 80 22 [v0, v1, v2, v3] [.int x1, .ref a0, .ref a, w0] h Q = ev_ X d 58 [.ref a, .ref a0, .int x1] h (fun r h' => ex_ X (d + 1) 80 25 [v0, v1, v2, v3] (r.toList ++ [w0]) h' Q) := R_ctor (show mx_at 80 22 = some (.invokespecial 185, 3) by decide +kernel) (mx_clk ow80 cc11_185) (by decide) (Nat.le_of_ble_eq_true rfl) rfl rfl (Nat.le_of_ble_eq_true rfl) ml58 (Nat.le_of_ble_eq_true rfl)
set_option maxRecDepth 20000 in
theorem i80_25 : ex_ X d 80 25 [v0, v1, v2, v3] [.ref a] h Q = (mx_nl v1 = true ∧ ex_ X d 80 26 [v0, v1, .ref a, v3] [] h Q) := mx_t1 (R_st (ok := mx_isA) (n := 2) (w := 1) (show mx_at 80 25 = some (.astore_n 2, 1) by decide +kernel) (fun _ _ => rfl) (Nat.le_of_ble_eq_true rfl)) rfl
set_option maxRecDepth 20000 in
theorem i80_26 : ex_ X d 80 26 [v0, v1, .ref a, v3] [] h Q = ex_ X d 80 27 [v0, v1, .ref a, v3] [.ref a] h Q := ex_nx (show mx_at 80 26 = some (.aload_n 2, 1) by decide +kernel) rfl
set_option maxRecDepth 20000 in
theorem i80_27 (hc : co_ h a = some 10) : ex_ X (d + 1) 80 27 [v0, v1, v2, v3] [.ref a] h Q = ev_ X d 59 [.ref a] h (fun r h' => ex_ X (d + 1) 80 30 [v0, v1, v2, v3] (r.toList ++ []) h' Q) := R_vir (show mx_at 80 27 = some (.invokevirtual 188, 3) by decide +kernel) (mx_clk ow80 cc11_188) (Nat.le_of_ble_eq_true rfl) rfl rfl hc rfl (Nat.le_of_ble_eq_true rfl) (Nat.le_of_ble_eq_true rfl) (by rw [ml59]; exact Nat.le_of_ble_eq_true rfl)
set_option maxRecDepth 20000 in
theorem i80_30 : ex_ X d 80 30 [v0, v1, v2, v3] [.int x] h Q = (mx_nl v2 = true ∧ ex_ X d 80 31 [v0, v1, v2, .int x] [] h Q) := mx_t1 (R_st (ok := mx_isI) (n := 3) (w := 1) (show mx_at 80 30 = some (.istore_n 3, 1) by decide +kernel) (fun _ _ => rfl) (Nat.le_of_ble_eq_true rfl)) rfl
set_option maxRecDepth 20000 in
theorem i80_31 : ex_ X d 80 31 [.ref a, v1, v2, v3] [] h Q = ex_ X d 80 32 [.ref a, v1, v2, v3] [.ref a] h Q := ex_nx (show mx_at 80 31 = some (.aload_n 0, 1) by decide +kernel) rfl
set_option maxRecDepth 20000 in
theorem i80_32 : ex_ X d 80 32 [v0, v1, v2, v3] [.ref a] h Q = (gk_ h a 1 [(11, 0)] = true ∧ ex_ X d 80 35 [v0, v1, v2, v3] [gv_ h a 1] h Q) := R_getf (show mx_at 80 32 = some (.getfield 21, 3) by decide +kernel) (mx_fdo ow80 fd110021)
set_option maxRecDepth 20000 in
theorem i80_35 (hc : co_ h a = some 5) : ex_ X (d + 1) 80 35 [v0, v1, v2, v3] [.ref a] h Q = ev_ X d 37 [.ref a] h (fun r h' => ex_ X (d + 1) 80 38 [v0, v1, v2, v3] (r.toList ++ []) h' Q) := R_vir (show mx_at 80 35 = some (.invokevirtual 191, 3) by decide +kernel) (mx_clk ow80 cc11_191) (Nat.le_of_ble_eq_true rfl) rfl rfl hc rfl (Nat.le_of_ble_eq_true rfl) (Nat.le_of_ble_eq_true rfl) (by rw [ml37]; exact Nat.le_of_ble_eq_true rfl)
set_option maxRecDepth 20000 in
theorem i80_38 : ex_ X d 80 38 [v0, v1, v2, .int x] [] h Q = ex_ X d 80 39 [v0, v1, v2, .int x] [.int x] h Q := ex_nx (show mx_at 80 38 = some (.iload_n 3, 1) by decide +kernel) rfl
set_option maxRecDepth 20000 in
theorem i80_39 : ex_ X d 80 39 [v0, v1, v2, v3] [.int x] h Q = if ¬ x = 0 then ex_ X d 80 50 [v0, v1, v2, v3] [] h Q else ex_ X d 80 42 [v0, v1, v2, v3] [] h Q := (R_br (show mx_at 80 39 = some (.ifCond .ne 11, 3) by decide +kernel) rfl rfl).trans mx_ite
set_option maxRecDepth 20000 in
theorem i80_42 : ex_ X d 80 42 [v0, v1, v2, v3] [] h Q = ex_ X d 80 44 [v0, v1, v2, v3] [.int (-10)] h Q := R_bipush (show mx_at 80 42 = some (.bipush (-10), 2) by decide +kernel) (by decide)
set_option maxRecDepth 20000 in
theorem i80_44 : ex_ X d 80 44 [v0, v1, .ref a, v3] [w0] h Q = ex_ X d 80 45 [v0, v1, .ref a, v3] [.ref a, w0] h Q := ex_nx (show mx_at 80 44 = some (.aload_n 2, 1) by decide +kernel) rfl
set_option maxRecDepth 20000 in
theorem i80_45 : ex_ X d 80 45 [v0, v1, v2, v3] [.ref a, w0] h Q = (gk_ h a 3 [(10, 0)] = true ∧ ex_ X d 80 48 [v0, v1, v2, v3] [gv_ h a 3, w0] h Q) := R_getf (show mx_at 80 45 = some (.getfield 194, 3) by decide +kernel) (mx_fdo ow80 fd110194)
set_option maxRecDepth 20000 in
theorem i80_48 : ex_ X d 80 48 [v0, v1, v2, v3] [.int y, .int x] h Q = ex_ X d 80 49 [v0, v1, v2, v3] [.int (x - y)] h Q := ex_nx (show mx_at 80 48 = some (.isub, 1) by decide +kernel) rfl
set_option maxRecDepth 20000 in
theorem i80_49 : ex_ X d 80 49 [v0, v1, v2, v3] [.int x] h Q = Q (some (.int x)) h := ex_ret (show mx_at 80 49 = some (.ireturn, 1) by decide +kernel) (mx_retI rt80)
set_option maxRecDepth 20000 in
theorem i80_50 : ex_ X d 80 50 [.ref a, v1, v2, v3] [] h Q = ex_ X d 80 51 [.ref a, v1, v2, v3] [.ref a] h Q := ex_nx (show mx_at 80 50 = some (.aload_n 0, 1) by decide +kernel) rfl
set_option maxRecDepth 20000 in
theorem i80_51 : ex_ X d 80 51 [v0, v1, v2, v3] [.ref a] h Q = (gk_ h a 0 [(11, 0)] = true ∧ ex_ X d 80 54 [v0, v1, v2, v3] [gv_ h a 0] h Q) := R_getf (show mx_at 80 51 = some (.getfield 12, 3) by decide +kernel) (mx_fdo ow80 fd110012)
set_option maxRecDepth 20000 in
theorem i80_54 : ex_ X d 80 54 [v0, v1, v2, v3] [.ref a] h Q = (gk_ h a 5 [(3, 0)] = true ∧ ex_ X d 80 57 [v0, v1, v2, v3] [gv_ h a 5] h Q) := R_getf (show mx_at 80 54 = some (.getfield 197, 3) by decide +kernel) (mx_fdo ow80 fd110197)
set_option maxRecDepth 20000 in
theorem i80_57 : ex_ X d 80 57 [v0, .int x, v2, v3] [w0] h Q = ex_ X d 80 58 [v0, .int x, v2, v3] [.int x, w0] h Q := ex_nx (show mx_at 80 57 = some (.iload_n 1, 1) by decide +kernel) rfl
set_option maxRecDepth 20000 in
theorem i80_58 : ex_ X d 80 58 [v0, v1, .ref a, v3] [w0, w1] h Q = ex_ X d 80 59 [v0, v1, .ref a, v3] [.ref a, w0, w1] h Q := ex_nx (show mx_at 80 58 = some (.aload_n 2, 1) by decide +kernel) rfl
set_option maxRecDepth 20000 in
theorem i80_59 : ex_ X d 80 59 [v0, v1, v2, v3] [.ref b, .int i, .ref a] h Q = (rx_ h a i b = true ∧ ex_ X d 80 60 [v0, v1, v2, v3] [] (rs_ h a i (some b)) Q) := R_aast (show mx_at 80 59 = some (.aastore, 1) by decide +kernel)
set_option maxRecDepth 20000 in
theorem i80_60 : ex_ X d 80 60 [v0, v1, v2, v3] [] h Q = ex_ X d 80 61 [v0, v1, v2, v3] [.int 1] h Q := R_iconst (show mx_at 80 60 = some (.iconst 1, 1) by decide +kernel) (by decide)
set_option maxRecDepth 20000 in
theorem i80_61 : ex_ X d 80 61 [v0, v1, v2, v3] [.int x] h Q = Q (some (.int x)) h := ex_ret (show mx_at 80 61 = some (.ireturn, 1) by decide +kernel) (mx_retI rt80)
theorem i80_e : ev_ X d 80 [.ref a, .int x0] h Q = ex_ X d 80 0 [.ref a, .int x0, .double 0, .double 0] [] h Q := by rw [ev_, ml80]; rfl
-- 81 X11_law
set_option maxRecDepth 20000 in
theorem i81_0 : ex_ X d 81 0 [v0, .int x, v2, v3, v4, v5] [] h Q = ex_ X d 81 1 [v0, .int x, v2, v3, v4, v5] [.int x] h Q := ex_nx (show mx_at 81 0 = some (.iload_n 1, 1) by decide +kernel) rfl
set_option maxRecDepth 20000 in
theorem i81_1 : ex_ X (d + 1) 81 1 [v0, v1, v2, v3, v4, v5] [.int x0] h Q = ev_ X d 111 [.int x0] h (fun r h' => ex_ X (d + 1) 81 4 [v0, v1, v2, v3, v4, v5] (r.toList ++ []) h' Q) := R_stat (show mx_at 81 1 = some (.invokestatic 180, 3) by decide +kernel) (mx_clk ow81 cc11_180) (Nat.le_of_ble_eq_true rfl) rfl rfl (Nat.le_of_ble_eq_true rfl) ml111 (Nat.le_of_ble_eq_true rfl)
set_option maxRecDepth 20000 in
theorem i81_4 : ex_ X d 81 4 [v0, v1, v2, v3, v4, v5] [.int x] h Q = if ¬ x = 0 then ex_ X d 81 13 [v0, v1, v2, v3, v4, v5] [] h Q else ex_ X d 81 7 [v0, v1, v2, v3, v4, v5] [] h Q := (R_br (show mx_at 81 4 = some (.ifCond .ne 9, 3) by decide +kernel) rfl rfl).trans mx_ite
set_option maxRecDepth 20000 in
theorem i81_7 : ex_ X d 81 7 [.ref a, v1, v2, v3, v4, v5] [] h Q = ex_ X d 81 8 [.ref a, v1, v2, v3, v4, v5] [.ref a] h Q := ex_nx (show mx_at 81 7 = some (.aload_n 0, 1) by decide +kernel) rfl
set_option maxRecDepth 20000 in
theorem i81_8 : ex_ X d 81 8 [v0, v1, v2, v3, v4, v5] [w0] h Q = ex_ X d 81 9 [v0, v1, v2, v3, v4, v5] [.int 1, w0] h Q := R_iconst (show mx_at 81 8 = some (.iconst 1, 1) by decide +kernel) (by decide)
set_option maxRecDepth 20000 in
theorem i81_9 (hc : co_ h a = some 11) : ex_ X (d + 1) 81 9 [v0, v1, v2, v3, v4, v5] [.int x0, .ref a] h Q = ev_ X d 106 [.ref a, .int x0] h (fun r h' => ex_ X (d + 1) 81 12 [v0, v1, v2, v3, v4, v5] (r.toList ++ []) h' Q) := R_vir (show mx_at 81 9 = some (.invokevirtual 72, 3) by decide +kernel) (mx_clk ow81 cc11_72) (Nat.le_of_ble_eq_true rfl) rfl rfl hc rfl (Nat.le_of_ble_eq_true rfl) (Nat.le_of_ble_eq_true rfl) (by rw [ml106]; exact Nat.le_of_ble_eq_true rfl)
set_option maxRecDepth 20000 in
theorem i81_12 : ex_ X d 81 12 [v0, v1, v2, v3, v4, v5] [.int x] h Q = Q (some (.int x)) h := ex_ret (show mx_at 81 12 = some (.ireturn, 1) by decide +kernel) (mx_retI rt81)
set_option maxRecDepth 20000 in
theorem i81_13 : ex_ X d 81 13 [.ref a, v1, v2, v3, v4, v5] [] h Q = ex_ X d 81 14 [.ref a, v1, v2, v3, v4, v5] [.ref a] h Q := ex_nx (show mx_at 81 13 = some (.aload_n 0, 1) by decide +kernel) rfl
set_option maxRecDepth 20000 in
theorem i81_14 : ex_ X d 81 14 [v0, v1, v2, v3, v4, v5] [.ref a] h Q = (gk_ h a 0 [(11, 0)] = true ∧ ex_ X d 81 17 [v0, v1, v2, v3, v4, v5] [gv_ h a 0] h Q) := R_getf (show mx_at 81 14 = some (.getfield 12, 3) by decide +kernel) (mx_fdo ow81 fd110012)
set_option maxRecDepth 20000 in
theorem i81_17 : ex_ X d 81 17 [v0, .int x, v2, v3, v4, v5] [w0] h Q = ex_ X d 81 18 [v0, .int x, v2, v3, v4, v5] [.int x, w0] h Q := ex_nx (show mx_at 81 17 = some (.iload_n 1, 1) by decide +kernel) rfl
set_option maxRecDepth 20000 in
theorem i81_18 : ex_ X d 81 18 [v0, v1, .int x, v3, v4, v5] [w0, w1] h Q = ex_ X d 81 19 [v0, v1, .int x, v3, v4, v5] [.int x, w0, w1] h Q := ex_nx (show mx_at 81 18 = some (.iload_n 2, 1) by decide +kernel) rfl
set_option maxRecDepth 20000 in
theorem i81_19 : ex_ X d 81 19 [v0, v1, v2, .int x, v4, v5] [w0, w1, w2] h Q = ex_ X d 81 20 [v0, v1, v2, .int x, v4, v5] [.int x, w0, w1, w2] h Q := ex_nx (show mx_at 81 19 = some (.iload_n 3, 1) by decide +kernel) rfl
set_option maxRecDepth 20000 in
theorem i81_20 : ex_ X d 81 20 [v0, v1, v2, v3, .int x, v5] [w0, w1, w2, w3] h Q = ex_ X d 81 22 [v0, v1, v2, v3, .int x, v5] [.int x, w0, w1, w2, w3] h Q := ex_nx (show mx_at 81 20 = some (.iload 4, 2) by decide +kernel) rfl
set_option maxRecDepth 20000 in
theorem i81_22 : ex_ X d 81 22 [v0, v1, v2, v3, v4, .int x] [w0, w1, w2, w3, w4] h Q = ex_ X d 81 24 [v0, v1, v2, v3, v4, .int x] [.int x, w0, w1, w2, w3, w4] h Q := ex_nx (show mx_at 81 22 = some (.iload 5, 2) by decide +kernel) rfl
set_option maxRecDepth 20000 in
theorem i81_24 (hc : co_ h a = some 3) : ex_ X (d + 1) 81 24 [v0, v1, v2, v3, v4, v5] [.int x4, .int x3, .int x2, .int x1, .int x0, .ref a] h Q = ev_ X d 16 [.ref a, .int x0, .int x1, .int x2, .int x3, .int x4] h (fun r h' => ex_ X (d + 1) 81 27 [v0, v1, v2, v3, v4, v5] (r.toList ++ []) h' Q) := R_vir (show mx_at 81 24 = some (.invokevirtual 201, 3) by decide +kernel) (mx_clk ow81 cc11_201) (Nat.le_of_ble_eq_true rfl) rfl rfl hc rfl (Nat.le_of_ble_eq_true rfl) (Nat.le_of_ble_eq_true rfl) (by rw [ml16]; exact Nat.le_of_ble_eq_true rfl)
set_option maxRecDepth 20000 in
theorem i81_27 : ex_ X d 81 27 [v0, v1, v2, v3, v4, v5] [.int x] h Q = Q (some (.int x)) h := ex_ret (show mx_at 81 27 = some (.ireturn, 1) by decide +kernel) (mx_retI rt81)
theorem i81_e : ev_ X d 81 [.ref a, .int x0, .int x1, .int x2, .int x3, .int x4] h Q = ex_ X d 81 0 [.ref a, .int x0, .int x1, .int x2, .int x3, .int x4] [] h Q := by rw [ev_, ml81]; rfl
-- 82 X11_days
set_option maxRecDepth 20000 in
theorem i82_0 : ex_ X d 82 0 [v0, .int x] [] h Q = ex_ X d 82 1 [v0, .int x] [.int x] h Q := ex_nx (show mx_at 82 0 = some (.iload_n 1, 1) by decide +kernel) rfl
set_option maxRecDepth 20000 in
theorem i82_1 : ex_ X d 82 1 [v0, v1] [w0] h Q = ex_ X d 82 2 [v0, v1] [.int 1, w0] h Q := R_iconst (show mx_at 82 1 = some (.iconst 1, 1) by decide +kernel) (by decide)
set_option maxRecDepth 20000 in
theorem i82_2 : ex_ X d 82 2 [v0, v1] [w0, w1] h Q = ex_ X d 82 4 [v0, v1] [.int 60, w0, w1] h Q := R_bipush (show mx_at 82 2 = some (.bipush 60, 2) by decide +kernel) (by decide)
set_option maxRecDepth 20000 in
theorem i82_4 : ex_ X (d + 1) 82 4 [v0, v1] [.int x2, .int x1, .int x0] h Q = ev_ X d 107 [.int x0, .int x1, .int x2] h (fun r h' => ex_ X (d + 1) 82 7 [v0, v1] (r.toList ++ []) h' Q) := R_stat (show mx_at 82 4 = some (.invokestatic 68, 3) by decide +kernel) (mx_clk ow82 cc11_68) (Nat.le_of_ble_eq_true rfl) rfl rfl (Nat.le_of_ble_eq_true rfl) ml107 (Nat.le_of_ble_eq_true rfl)
set_option maxRecDepth 20000 in
theorem i82_7 : ex_ X d 82 7 [v0, v1] [.int x] h Q = if ¬ x = 0 then ex_ X d 82 16 [v0, v1] [] h Q else ex_ X d 82 10 [v0, v1] [] h Q := (R_br (show mx_at 82 7 = some (.ifCond .ne 9, 3) by decide +kernel) rfl rfl).trans mx_ite
set_option maxRecDepth 20000 in
theorem i82_10 : ex_ X d 82 10 [.ref a, v1] [] h Q = ex_ X d 82 11 [.ref a, v1] [.ref a] h Q := ex_nx (show mx_at 82 10 = some (.aload_n 0, 1) by decide +kernel) rfl
set_option maxRecDepth 20000 in
theorem i82_11 : ex_ X d 82 11 [v0, v1] [w0] h Q = ex_ X d 82 12 [v0, v1] [.int 1, w0] h Q := R_iconst (show mx_at 82 11 = some (.iconst 1, 1) by decide +kernel) (by decide)
set_option maxRecDepth 20000 in
theorem i82_12 (hc : co_ h a = some 11) : ex_ X (d + 1) 82 12 [v0, v1] [.int x0, .ref a] h Q = ev_ X d 106 [.ref a, .int x0] h (fun r h' => ex_ X (d + 1) 82 15 [v0, v1] (r.toList ++ []) h' Q) := R_vir (show mx_at 82 12 = some (.invokevirtual 72, 3) by decide +kernel) (mx_clk ow82 cc11_72) (Nat.le_of_ble_eq_true rfl) rfl rfl hc rfl (Nat.le_of_ble_eq_true rfl) (Nat.le_of_ble_eq_true rfl) (by rw [ml106]; exact Nat.le_of_ble_eq_true rfl)
set_option maxRecDepth 20000 in
theorem i82_15 : ex_ X d 82 15 [v0, v1] [.int x] h Q = Q (some (.int x)) h := ex_ret (show mx_at 82 15 = some (.ireturn, 1) by decide +kernel) (mx_retI rt82)
set_option maxRecDepth 20000 in
theorem i82_16 : ex_ X d 82 16 [.ref a, v1] [] h Q = ex_ X d 82 17 [.ref a, v1] [.ref a] h Q := ex_nx (show mx_at 82 16 = some (.aload_n 0, 1) by decide +kernel) rfl
set_option maxRecDepth 20000 in
theorem i82_17 : ex_ X d 82 17 [v0, v1] [.ref a] h Q = (gk_ h a 0 [(11, 0)] = true ∧ ex_ X d 82 20 [v0, v1] [gv_ h a 0] h Q) := R_getf (show mx_at 82 17 = some (.getfield 12, 3) by decide +kernel) (mx_fdo ow82 fd110012)
set_option maxRecDepth 20000 in
theorem i82_20 : ex_ X d 82 20 [v0, v1] [.ref a] h Q = (gk_ h a 0 [(3, 0)] = true ∧ ex_ X d 82 23 [v0, v1] [gv_ h a 0] h Q) := R_getf (show mx_at 82 20 = some (.getfield 205, 3) by decide +kernel) (mx_fdo ow82 fd110205)
set_option maxRecDepth 20000 in
theorem i82_23 : ex_ X d 82 23 [v0, .int x] [w0] h Q = ex_ X d 82 24 [v0, .int x] [.int x, w0] h Q := ex_nx (show mx_at 82 23 = some (.iload_n 1, 1) by decide +kernel) rfl
set_option maxRecDepth 20000 in
theorem i82_24 : ex_ X d 82 24 [v0, v1] [.int y, .int x] h Q = ex_ X d 82 25 [v0, v1] [.int (x + y)] h Q := ex_nx (show mx_at 82 24 = some (.iadd, 1) by decide +kernel) rfl
set_option maxRecDepth 20000 in
theorem i82_25 : ex_ X d 82 25 [v0, v1] [w0] h Q = ex_ X d 82 28 [v0, v1] [.int 399, w0] h Q := R_sipush (show mx_at 82 25 = some (.sipush 399, 3) by decide +kernel) (by decide)
set_option maxRecDepth 20000 in
theorem i82_28 : ex_ X d 82 28 [v0, v1] [.int y, .int x] h Q = if x ≤ y then ex_ X d 82 37 [v0, v1] [] h Q else ex_ X d 82 31 [v0, v1] [] h Q := (R_br (show mx_at 82 28 = some (.if_icmp .le 9, 3) by decide +kernel) rfl rfl).trans mx_ite
set_option maxRecDepth 20000 in
theorem i82_31 : ex_ X d 82 31 [.ref a, v1] [] h Q = ex_ X d 82 32 [.ref a, v1] [.ref a] h Q := ex_nx (show mx_at 82 31 = some (.aload_n 0, 1) by decide +kernel) rfl
set_option maxRecDepth 20000 in
theorem i82_32 : ex_ X d 82 32 [v0, v1] [w0] h Q = ex_ X d 82 33 [v0, v1] [.int 3, w0] h Q := R_iconst (show mx_at 82 32 = some (.iconst 3, 1) by decide +kernel) (by decide)
set_option maxRecDepth 20000 in
theorem i82_33 (hc : co_ h a = some 11) : ex_ X (d + 1) 82 33 [v0, v1] [.int x0, .ref a] h Q = ev_ X d 106 [.ref a, .int x0] h (fun r h' => ex_ X (d + 1) 82 36 [v0, v1] (r.toList ++ []) h' Q) := R_vir (show mx_at 82 33 = some (.invokevirtual 72, 3) by decide +kernel) (mx_clk ow82 cc11_72) (Nat.le_of_ble_eq_true rfl) rfl rfl hc rfl (Nat.le_of_ble_eq_true rfl) (Nat.le_of_ble_eq_true rfl) (by rw [ml106]; exact Nat.le_of_ble_eq_true rfl)
set_option maxRecDepth 20000 in
theorem i82_36 : ex_ X d 82 36 [v0, v1] [.int x] h Q = Q (some (.int x)) h := ex_ret (show mx_at 82 36 = some (.ireturn, 1) by decide +kernel) (mx_retI rt82)
set_option maxRecDepth 20000 in
theorem i82_37 : ex_ X d 82 37 [.ref a, v1] [] h Q = ex_ X d 82 38 [.ref a, v1] [.ref a] h Q := ex_nx (show mx_at 82 37 = some (.aload_n 0, 1) by decide +kernel) rfl
set_option maxRecDepth 20000 in
theorem i82_38 : ex_ X d 82 38 [v0, v1] [.ref a] h Q = (gk_ h a 0 [(11, 0)] = true ∧ ex_ X d 82 41 [v0, v1] [gv_ h a 0] h Q) := R_getf (show mx_at 82 38 = some (.getfield 12, 3) by decide +kernel) (mx_fdo ow82 fd110012)
set_option maxRecDepth 20000 in
theorem i82_41 : ex_ X d 82 41 [v0, .int x] [w0] h Q = ex_ X d 82 42 [v0, .int x] [.int x, w0] h Q := ex_nx (show mx_at 82 41 = some (.iload_n 1, 1) by decide +kernel) rfl
set_option maxRecDepth 20000 in
theorem i82_42 (hc : co_ h a = some 3) : ex_ X (d + 1) 82 42 [v0, v1] [.int x0, .ref a] h Q = ev_ X d 20 [.ref a, .int x0] h (fun r h' => ex_ X (d + 1) 82 45 [v0, v1] (r.toList ++ []) h' Q) := R_vir (show mx_at 82 42 = some (.invokevirtual 208, 3) by decide +kernel) (mx_clk ow82 cc11_208) (Nat.le_of_ble_eq_true rfl) rfl rfl hc rfl (Nat.le_of_ble_eq_true rfl) (Nat.le_of_ble_eq_true rfl) (by rw [ml20]; exact Nat.le_of_ble_eq_true rfl)
set_option maxRecDepth 20000 in
theorem i82_45 : ex_ X d 82 45 [.ref a, v1] [] h Q = ex_ X d 82 46 [.ref a, v1] [.ref a] h Q := ex_nx (show mx_at 82 45 = some (.aload_n 0, 1) by decide +kernel) rfl
set_option maxRecDepth 20000 in
theorem i82_46 : ex_ X d 82 46 [v0, v1] [.ref a] h Q = (gk_ h a 0 [(11, 0)] = true ∧ ex_ X d 82 49 [v0, v1] [gv_ h a 0] h Q) := R_getf (show mx_at 82 46 = some (.getfield 12, 3) by decide +kernel) (mx_fdo ow82 fd110012)
set_option maxRecDepth 20000 in
theorem i82_49 : ex_ X d 82 49 [v0, v1] [.ref a] h Q = (gk_ h a 0 [(3, 0)] = true ∧ ex_ X d 82 52 [v0, v1] [gv_ h a 0] h Q) := R_getf (show mx_at 82 49 = some (.getfield 205, 3) by decide +kernel) (mx_fdo ow82 fd110205)
set_option maxRecDepth 20000 in
theorem i82_52 : ex_ X d 82 52 [v0, v1] [.int x] h Q = Q (some (.int x)) h := ex_ret (show mx_at 82 52 = some (.ireturn, 1) by decide +kernel) (mx_retI rt82)
theorem i82_e : ev_ X d 82 [.ref a, .int x0] h Q = ex_ X d 82 0 [.ref a, .int x0] [] h Q := by rw [ev_, ml82]; rfl
-- 83 X11_year
set_option maxRecDepth 20000 in
theorem i83_0 : ex_ X d 83 0 [v0, .int x, v2] [] h Q = ex_ X d 83 1 [v0, .int x, v2] [.int x] h Q := ex_nx (show mx_at 83 0 = some (.iload_n 1, 1) by decide +kernel) rfl
set_option maxRecDepth 20000 in
theorem i83_1 : ex_ X d 83 1 [v0, v1, v2] [w0] h Q = ex_ X d 83 2 [v0, v1, v2] [.int 1, w0] h Q := R_iconst (show mx_at 83 1 = some (.iconst 1, 1) by decide +kernel) (by decide)
set_option maxRecDepth 20000 in
theorem i83_2 : ex_ X d 83 2 [v0, v1, v2] [w0, w1] h Q = ex_ X d 83 4 [v0, v1, v2] [.int 60, w0, w1] h Q := R_bipush (show mx_at 83 2 = some (.bipush 60, 2) by decide +kernel) (by decide)
set_option maxRecDepth 20000 in
theorem i83_4 : ex_ X (d + 1) 83 4 [v0, v1, v2] [.int x2, .int x1, .int x0] h Q = ev_ X d 107 [.int x0, .int x1, .int x2] h (fun r h' => ex_ X (d + 1) 83 7 [v0, v1, v2] (r.toList ++ []) h' Q) := R_stat (show mx_at 83 4 = some (.invokestatic 68, 3) by decide +kernel) (mx_clk ow83 cc11_68) (Nat.le_of_ble_eq_true rfl) rfl rfl (Nat.le_of_ble_eq_true rfl) ml107 (Nat.le_of_ble_eq_true rfl)
set_option maxRecDepth 20000 in
theorem i83_7 : ex_ X d 83 7 [v0, v1, v2] [.int x] h Q = if ¬ x = 0 then ex_ X d 83 16 [v0, v1, v2] [] h Q else ex_ X d 83 10 [v0, v1, v2] [] h Q := (R_br (show mx_at 83 7 = some (.ifCond .ne 9, 3) by decide +kernel) rfl rfl).trans mx_ite
set_option maxRecDepth 20000 in
theorem i83_10 : ex_ X d 83 10 [.ref a, v1, v2] [] h Q = ex_ X d 83 11 [.ref a, v1, v2] [.ref a] h Q := ex_nx (show mx_at 83 10 = some (.aload_n 0, 1) by decide +kernel) rfl
set_option maxRecDepth 20000 in
theorem i83_11 : ex_ X d 83 11 [v0, v1, v2] [w0] h Q = ex_ X d 83 12 [v0, v1, v2] [.int 1, w0] h Q := R_iconst (show mx_at 83 11 = some (.iconst 1, 1) by decide +kernel) (by decide)
set_option maxRecDepth 20000 in
theorem i83_12 (hc : co_ h a = some 11) : ex_ X (d + 1) 83 12 [v0, v1, v2] [.int x0, .ref a] h Q = ev_ X d 106 [.ref a, .int x0] h (fun r h' => ex_ X (d + 1) 83 15 [v0, v1, v2] (r.toList ++ []) h' Q) := R_vir (show mx_at 83 12 = some (.invokevirtual 72, 3) by decide +kernel) (mx_clk ow83 cc11_72) (Nat.le_of_ble_eq_true rfl) rfl rfl hc rfl (Nat.le_of_ble_eq_true rfl) (Nat.le_of_ble_eq_true rfl) (by rw [ml106]; exact Nat.le_of_ble_eq_true rfl)
set_option maxRecDepth 20000 in
theorem i83_15 : ex_ X d 83 15 [v0, v1, v2] [.int x] h Q = Q (some (.int x)) h := ex_ret (show mx_at 83 15 = some (.ireturn, 1) by decide +kernel) (mx_retI rt83)
set_option maxRecDepth 20000 in
theorem i83_16 : ex_ X d 83 16 [.ref a, v1, v2] [] h Q = ex_ X d 83 17 [.ref a, v1, v2] [.ref a] h Q := ex_nx (show mx_at 83 16 = some (.aload_n 0, 1) by decide +kernel) rfl
set_option maxRecDepth 20000 in
theorem i83_17 : ex_ X d 83 17 [v0, v1, v2] [.ref a] h Q = (gk_ h a 0 [(11, 0)] = true ∧ ex_ X d 83 20 [v0, v1, v2] [gv_ h a 0] h Q) := R_getf (show mx_at 83 17 = some (.getfield 12, 3) by decide +kernel) (mx_fdo ow83 fd110012)
set_option maxRecDepth 20000 in
theorem i83_20 : ex_ X d 83 20 [v0, v1, v2] [.ref a] h Q = (gk_ h a 0 [(3, 0)] = true ∧ ex_ X d 83 23 [v0, v1, v2] [gv_ h a 0] h Q) := R_getf (show mx_at 83 20 = some (.getfield 205, 3) by decide +kernel) (mx_fdo ow83 fd110205)
set_option maxRecDepth 20000 in
theorem i83_23 : ex_ X d 83 23 [v0, .int x, v2] [w0] h Q = ex_ X d 83 24 [v0, .int x, v2] [.int x, w0] h Q := ex_nx (show mx_at 83 23 = some (.iload_n 1, 1) by decide +kernel) rfl
set_option maxRecDepth 20000 in
theorem i83_24 : ex_ X d 83 24 [v0, v1, v2] [.int y, .int x] h Q = ex_ X d 83 25 [v0, v1, v2] [.int (x + y)] h Q := ex_nx (show mx_at 83 24 = some (.iadd, 1) by decide +kernel) rfl
set_option maxRecDepth 20000 in
theorem i83_25 : ex_ X d 83 25 [v0, v1, v2] [w0] h Q = ex_ X d 83 28 [v0, v1, v2] [.int 399, w0] h Q := R_sipush (show mx_at 83 25 = some (.sipush 399, 3) by decide +kernel) (by decide)
set_option maxRecDepth 20000 in
theorem i83_28 : ex_ X d 83 28 [v0, v1, v2] [.int y, .int x] h Q = if x ≤ y then ex_ X d 83 37 [v0, v1, v2] [] h Q else ex_ X d 83 31 [v0, v1, v2] [] h Q := (R_br (show mx_at 83 28 = some (.if_icmp .le 9, 3) by decide +kernel) rfl rfl).trans mx_ite
set_option maxRecDepth 20000 in
theorem i83_31 : ex_ X d 83 31 [.ref a, v1, v2] [] h Q = ex_ X d 83 32 [.ref a, v1, v2] [.ref a] h Q := ex_nx (show mx_at 83 31 = some (.aload_n 0, 1) by decide +kernel) rfl
set_option maxRecDepth 20000 in
theorem i83_32 : ex_ X d 83 32 [v0, v1, v2] [w0] h Q = ex_ X d 83 33 [v0, v1, v2] [.int 3, w0] h Q := R_iconst (show mx_at 83 32 = some (.iconst 3, 1) by decide +kernel) (by decide)
set_option maxRecDepth 20000 in
theorem i83_33 (hc : co_ h a = some 11) : ex_ X (d + 1) 83 33 [v0, v1, v2] [.int x0, .ref a] h Q = ev_ X d 106 [.ref a, .int x0] h (fun r h' => ex_ X (d + 1) 83 36 [v0, v1, v2] (r.toList ++ []) h' Q) := R_vir (show mx_at 83 33 = some (.invokevirtual 72, 3) by decide +kernel) (mx_clk ow83 cc11_72) (Nat.le_of_ble_eq_true rfl) rfl rfl hc rfl (Nat.le_of_ble_eq_true rfl) (Nat.le_of_ble_eq_true rfl) (by rw [ml106]; exact Nat.le_of_ble_eq_true rfl)
set_option maxRecDepth 20000 in
theorem i83_36 : ex_ X d 83 36 [v0, v1, v2] [.int x] h Q = Q (some (.int x)) h := ex_ret (show mx_at 83 36 = some (.ireturn, 1) by decide +kernel) (mx_retI rt83)
set_option maxRecDepth 20000 in
theorem i83_37 : ex_ X d 83 37 [v0, v1, v2] [] h Q = ex_ X d 83 38 [v0, v1, v2] [.int 0] h Q := R_iconst (show mx_at 83 37 = some (.iconst 0, 1) by decide +kernel) (by decide)
set_option maxRecDepth 20000 in
theorem i83_38 : ex_ X d 83 38 [v0, v1, v2] [.int x] h Q = (mx_nl v1 = true ∧ ex_ X d 83 39 [v0, v1, .int x] [] h Q) := mx_t1 (R_st (ok := mx_isI) (n := 2) (w := 1) (show mx_at 83 38 = some (.istore_n 2, 1) by decide +kernel) (fun _ _ => rfl) (Nat.le_of_ble_eq_true rfl)) rfl
set_option maxRecDepth 20000 in
theorem i83_39 : ex_ X d 83 39 [v0, v1, .int x] [] h Q = ex_ X d 83 40 [v0, v1, .int x] [.int x] h Q := ex_nx (show mx_at 83 39 = some (.iload_n 2, 1) by decide +kernel) rfl
set_option maxRecDepth 20000 in
theorem i83_40 : ex_ X d 83 40 [v0, .int x, v2] [w0] h Q = ex_ X d 83 41 [v0, .int x, v2] [.int x, w0] h Q := ex_nx (show mx_at 83 40 = some (.iload_n 1, 1) by decide +kernel) rfl
set_option maxRecDepth 20000 in
theorem i83_41 : ex_ X d 83 41 [v0, v1, v2] [.int y, .int x] h Q = if y ≤ x then ex_ X d 83 89 [v0, v1, v2] [] h Q else ex_ X d 83 44 [v0, v1, v2] [] h Q := (R_br (show mx_at 83 41 = some (.if_icmp .ge 48, 3) by decide +kernel) rfl rfl).trans mx_ite
set_option maxRecDepth 20000 in
theorem i83_44 : ex_ X d 83 44 [.ref a, v1, v2] [] h Q = ex_ X d 83 45 [.ref a, v1, v2] [.ref a] h Q := ex_nx (show mx_at 83 44 = some (.aload_n 0, 1) by decide +kernel) rfl
set_option maxRecDepth 20000 in
theorem i83_45 : ex_ X d 83 45 [.ref a, v1, v2] [w0] h Q = ex_ X d 83 46 [.ref a, v1, v2] [.ref a, w0] h Q := ex_nx (show mx_at 83 45 = some (.aload_n 0, 1) by decide +kernel) rfl
set_option maxRecDepth 20000 in
theorem i83_46 : ex_ X d 83 46 [v0, v1, v2] [.ref a, w0] h Q = (gk_ h a 3 [(11, 0)] = true ∧ ex_ X d 83 49 [v0, v1, v2] [gv_ h a 3, w0] h Q) := R_getf (show mx_at 83 46 = some (.getfield 28, 3) by decide +kernel) (mx_fdo ow83 fd110028)
set_option maxRecDepth 20000 in
theorem i83_49 : ex_ X d 83 49 [v0, v1, v2] [w0, w1] h Q = ex_ X d 83 51 [v0, v1, v2] [.int 1103515245, w0, w1] h Q := R_ldc (show mx_at 83 49 = some (.ldc 211, 2) by decide +kernel) (by decide) ow83 ki110211
set_option maxRecDepth 20000 in
theorem i83_51 : ex_ X d 83 51 [v0, v1, v2] [.int y, .int x, w0] h Q = ex_ X d 83 52 [v0, v1, v2] [.int (x * y), w0] h Q := ex_nx (show mx_at 83 51 = some (.imul, 1) by decide +kernel) rfl
set_option maxRecDepth 20000 in
theorem i83_52 : ex_ X d 83 52 [v0, v1, v2] [w0, w1] h Q = ex_ X d 83 55 [v0, v1, v2] [.int 12345, w0, w1] h Q := R_sipush (show mx_at 83 52 = some (.sipush 12345, 3) by decide +kernel) (by decide)
set_option maxRecDepth 20000 in
theorem i83_55 : ex_ X d 83 55 [v0, v1, v2] [.int y, .int x, w0] h Q = ex_ X d 83 56 [v0, v1, v2] [.int (x + y), w0] h Q := ex_nx (show mx_at 83 55 = some (.iadd, 1) by decide +kernel) rfl
set_option maxRecDepth 20000 in
theorem i83_56 : ex_ X d 83 56 [v0, v1, v2] [w, .ref a] h Q = (pk_ 83 h a 3 w [(11, 0)] = true ∧ ex_ X d 83 59 [v0, v1, v2] [] (pf_ h a 3 w) Q) := R_putf (show mx_at 83 56 = some (.putfield 28, 3) by decide +kernel) (mx_fdo ow83 fd110028)
set_option maxRecDepth 20000 in
theorem i83_59 : ex_ X d 83 59 [.ref a, v1, v2] [] h Q = ex_ X d 83 60 [.ref a, v1, v2] [.ref a] h Q := ex_nx (show mx_at 83 59 = some (.aload_n 0, 1) by decide +kernel) rfl
set_option maxRecDepth 20000 in
theorem i83_60 : ex_ X d 83 60 [v0, v1, v2] [.ref a] h Q = (gk_ h a 0 [(11, 0)] = true ∧ ex_ X d 83 63 [v0, v1, v2] [gv_ h a 0] h Q) := R_getf (show mx_at 83 60 = some (.getfield 12, 3) by decide +kernel) (mx_fdo ow83 fd110012)
set_option maxRecDepth 20000 in
theorem i83_63 : ex_ X d 83 63 [.ref a, v1, v2] [w0] h Q = ex_ X d 83 64 [.ref a, v1, v2] [.ref a, w0] h Q := ex_nx (show mx_at 83 63 = some (.aload_n 0, 1) by decide +kernel) rfl
set_option maxRecDepth 20000 in
theorem i83_64 : ex_ X d 83 64 [v0, v1, v2] [.ref a, w0] h Q = (gk_ h a 3 [(11, 0)] = true ∧ ex_ X d 83 67 [v0, v1, v2] [gv_ h a 3, w0] h Q) := R_getf (show mx_at 83 64 = some (.getfield 28, 3) by decide +kernel) (mx_fdo ow83 fd110028)
set_option maxRecDepth 20000 in
theorem i83_67 : ex_ X d 83 67 [v0, v1, v2] [w0, w1] h Q = ex_ X d 83 69 [v0, v1, v2] [.int 8, w0, w1] h Q := R_bipush (show mx_at 83 67 = some (.bipush 8, 2) by decide +kernel) (by decide)
set_option maxRecDepth 20000 in
theorem i83_69 : ex_ X d 83 69 [v0, v1, v2] [.int y, .int x, w0] h Q = ex_ X d 83 70 [v0, v1, v2] [.int ((x.toUInt32 >>> (y.toUInt32 &&& Int32.toUInt32 31)).toInt32), w0] h Q := ex_nx (show mx_at 83 69 = some (.iushr, 1) by decide +kernel) rfl
set_option maxRecDepth 20000 in
theorem i83_70 : ex_ X d 83 70 [v0, v1, v2] [w0, w1] h Q = ex_ X d 83 71 [v0, v1, v2] [.int 3, w0, w1] h Q := R_iconst (show mx_at 83 70 = some (.iconst 3, 1) by decide +kernel) (by decide)
set_option maxRecDepth 20000 in
theorem i83_71 : ex_ X d 83 71 [v0, v1, v2] [.int y, .int x, w0] h Q = (y ≠ 0 ∧ ex_ X d 83 72 [v0, v1, v2] [.int (x - x / y * y), w0] h Q) := R_rem (show mx_at 83 71 = some (.irem, 1) by decide +kernel)
set_option maxRecDepth 20000 in
theorem i83_72 : ex_ X d 83 72 [v0, v1, v2] [w, .ref a] h Q = (pk_ 83 h a 1 w [(3, 0)] = true ∧ ex_ X d 83 75 [v0, v1, v2] [] (pf_ h a 1 w) Q) := R_putf (show mx_at 83 72 = some (.putfield 167, 3) by decide +kernel) (mx_fdo ow83 fd110167)
set_option maxRecDepth 20000 in
theorem i83_75 : ex_ X d 83 75 [.ref a, v1, v2] [] h Q = ex_ X d 83 76 [.ref a, v1, v2] [.ref a] h Q := ex_nx (show mx_at 83 75 = some (.aload_n 0, 1) by decide +kernel) rfl
set_option maxRecDepth 20000 in
theorem i83_76 : ex_ X d 83 76 [v0, v1, v2] [.ref a] h Q = (gk_ h a 0 [(11, 0)] = true ∧ ex_ X d 83 79 [v0, v1, v2] [gv_ h a 0] h Q) := R_getf (show mx_at 83 76 = some (.getfield 12, 3) by decide +kernel) (mx_fdo ow83 fd110012)
set_option maxRecDepth 20000 in
theorem i83_79 : ex_ X d 83 79 [v0, v1, v2] [w0] h Q = ex_ X d 83 80 [v0, v1, v2] [.int 1, w0] h Q := R_iconst (show mx_at 83 79 = some (.iconst 1, 1) by decide +kernel) (by decide)
set_option maxRecDepth 20000 in
theorem i83_80 (hc : co_ h a = some 3) : ex_ X (d + 1) 83 80 [v0, v1, v2] [.int x0, .ref a] h Q = ev_ X d 20 [.ref a, .int x0] h (fun r h' => ex_ X (d + 1) 83 83 [v0, v1, v2] (r.toList ++ []) h' Q) := R_vir (show mx_at 83 80 = some (.invokevirtual 208, 3) by decide +kernel) (mx_clk ow83 cc11_208) (Nat.le_of_ble_eq_true rfl) rfl rfl hc rfl (Nat.le_of_ble_eq_true rfl) (Nat.le_of_ble_eq_true rfl) (by rw [ml20]; exact Nat.le_of_ble_eq_true rfl)
set_option maxRecDepth 20000 in
theorem i83_83 : ex_ X d 83 83 [v0, v1, .int x] [] h Q = (mx_nl v1 = true ∧ ex_ X d 83 86 [v0, v1, .int (x + 1)] [] h Q) := R_iinc (n := 2) (c := 1) (show mx_at 83 83 = some (.iinc 2 1, 3) by decide +kernel) rfl
set_option maxRecDepth 20000 in
theorem i83_86 : ex_ X d 83 86 [v0, v1, v2] [] h Q = ex_ X d 83 39 [v0, v1, v2] [] h Q := R_to (show mx_at 83 86 = some (.goto (-47), 3) by decide +kernel) rfl rfl
set_option maxRecDepth 20000 in
theorem i83_89 : ex_ X d 83 89 [.ref a, v1, v2] [] h Q = ex_ X d 83 90 [.ref a, v1, v2] [.ref a] h Q := ex_nx (show mx_at 83 89 = some (.aload_n 0, 1) by decide +kernel) rfl
set_option maxRecDepth 20000 in
theorem i83_90 : ex_ X d 83 90 [v0, v1, v2] [.ref a] h Q = (gk_ h a 0 [(11, 0)] = true ∧ ex_ X d 83 93 [v0, v1, v2] [gv_ h a 0] h Q) := R_getf (show mx_at 83 90 = some (.getfield 12, 3) by decide +kernel) (mx_fdo ow83 fd110012)
set_option maxRecDepth 20000 in
theorem i83_93 : ex_ X d 83 93 [v0, v1, v2] [.ref a] h Q = (gk_ h a 1 [(3, 0)] = true ∧ ex_ X d 83 96 [v0, v1, v2] [gv_ h a 1] h Q) := R_getf (show mx_at 83 93 = some (.getfield 167, 3) by decide +kernel) (mx_fdo ow83 fd110167)
set_option maxRecDepth 20000 in
theorem i83_96 : ex_ X d 83 96 [v0, v1, v2] [.int x] h Q = Q (some (.int x)) h := ex_ret (show mx_at 83 96 = some (.ireturn, 1) by decide +kernel) (mx_retI rt83)
theorem i83_e : ev_ X d 83 [.ref a, .int x0] h Q = ex_ X d 83 0 [.ref a, .int x0, .double 0] [] h Q := by rw [ev_, ml83]; rfl
-- 84 X11_then
set_option maxRecDepth 20000 in
theorem i84_0 : ex_ X d 84 0 [v0, .int x, v2, v3] [] h Q = ex_ X d 84 1 [v0, .int x, v2, v3] [.int x] h Q := ex_nx (show mx_at 84 0 = some (.iload_n 1, 1) by decide +kernel) rfl
set_option maxRecDepth 20000 in
theorem i84_1 : ex_ X (d + 1) 84 1 [v0, v1, v2, v3] [.int x0] h Q = ev_ X d 112 [.int x0] h (fun r h' => ex_ X (d + 1) 84 4 [v0, v1, v2, v3] (r.toList ++ []) h' Q) := R_stat (show mx_at 84 1 = some (.invokestatic 212, 3) by decide +kernel) (mx_clk ow84 cc11_212) (Nat.le_of_ble_eq_true rfl) rfl rfl (Nat.le_of_ble_eq_true rfl) ml112 (Nat.le_of_ble_eq_true rfl)
set_option maxRecDepth 20000 in
theorem i84_4 : ex_ X d 84 4 [v0, v1, v2, v3] [.int x] h Q = if x = 0 then ex_ X d 84 25 [v0, v1, v2, v3] [] h Q else ex_ X d 84 7 [v0, v1, v2, v3] [] h Q := (R_br (show mx_at 84 4 = some (.ifCond .eq 21, 3) by decide +kernel) rfl rfl).trans mx_ite
set_option maxRecDepth 20000 in
theorem i84_7 : ex_ X d 84 7 [.ref a, v1, v2, v3] [] h Q = ex_ X d 84 8 [.ref a, v1, v2, v3] [.ref a] h Q := ex_nx (show mx_at 84 7 = some (.aload_n 0, 1) by decide +kernel) rfl
set_option maxRecDepth 20000 in
theorem i84_8 : ex_ X d 84 8 [v0, v1, .int x, v3] [w0] h Q = ex_ X d 84 9 [v0, v1, .int x, v3] [.int x, w0] h Q := ex_nx (show mx_at 84 8 = some (.iload_n 2, 1) by decide +kernel) rfl
set_option maxRecDepth 20000 in
theorem i84_9 (hc : co_ h a = some 11) : ex_ X (d + 1) 84 9 [v0, v1, v2, v3] [.int x0, .ref a] h Q = ev_ X d 108 [.ref a, .int x0] h (fun r h' => ex_ X (d + 1) 84 12 [v0, v1, v2, v3] (r.toList ++ []) h' Q) := R_vir (show mx_at 84 9 = some (.invokevirtual 87, 3) by decide +kernel) (mx_clk ow84 cc11_87) (Nat.le_of_ble_eq_true rfl) rfl rfl hc rfl (Nat.le_of_ble_eq_true rfl) (Nat.le_of_ble_eq_true rfl) (by rw [ml108]; exact Nat.le_of_ble_eq_true rfl)
set_option maxRecDepth 20000 in
theorem i84_12 : ex_ X d 84 12 [v0, v1, v2, v3] [.int x] h Q = if x = 0 then ex_ X d 84 25 [v0, v1, v2, v3] [] h Q else ex_ X d 84 15 [v0, v1, v2, v3] [] h Q := (R_br (show mx_at 84 12 = some (.ifCond .eq 13, 3) by decide +kernel) rfl rfl).trans mx_ite
set_option maxRecDepth 20000 in
theorem i84_15 : ex_ X d 84 15 [v0, v1, v2, .int x] [] h Q = ex_ X d 84 16 [v0, v1, v2, .int x] [.int x] h Q := ex_nx (show mx_at 84 15 = some (.iload_n 3, 1) by decide +kernel) rfl
set_option maxRecDepth 20000 in
theorem i84_16 : ex_ X d 84 16 [v0, v1, v2, v3] [w0] h Q = ex_ X d 84 17 [v0, v1, v2, v3] [.int 0, w0] h Q := R_iconst (show mx_at 84 16 = some (.iconst 0, 1) by decide +kernel) (by decide)
set_option maxRecDepth 20000 in
theorem i84_17 : ex_ X d 84 17 [v0, v1, v2, v3] [w0, w1] h Q = ex_ X d 84 19 [v0, v1, v2, v3] [.int 8, w0, w1] h Q := R_bipush (show mx_at 84 17 = some (.bipush 8, 2) by decide +kernel) (by decide)
set_option maxRecDepth 20000 in
theorem i84_19 : ex_ X (d + 1) 84 19 [v0, v1, v2, v3] [.int x2, .int x1, .int x0] h Q = ev_ X d 107 [.int x0, .int x1, .int x2] h (fun r h' => ex_ X (d + 1) 84 22 [v0, v1, v2, v3] (r.toList ++ []) h' Q) := R_stat (show mx_at 84 19 = some (.invokestatic 68, 3) by decide +kernel) (mx_clk ow84 cc11_68) (Nat.le_of_ble_eq_true rfl) rfl rfl (Nat.le_of_ble_eq_true rfl) ml107 (Nat.le_of_ble_eq_true rfl)
set_option maxRecDepth 20000 in
theorem i84_22 : ex_ X d 84 22 [v0, v1, v2, v3] [.int x] h Q = if ¬ x = 0 then ex_ X d 84 31 [v0, v1, v2, v3] [] h Q else ex_ X d 84 25 [v0, v1, v2, v3] [] h Q := (R_br (show mx_at 84 22 = some (.ifCond .ne 9, 3) by decide +kernel) rfl rfl).trans mx_ite
set_option maxRecDepth 20000 in
theorem i84_25 : ex_ X d 84 25 [.ref a, v1, v2, v3] [] h Q = ex_ X d 84 26 [.ref a, v1, v2, v3] [.ref a] h Q := ex_nx (show mx_at 84 25 = some (.aload_n 0, 1) by decide +kernel) rfl
set_option maxRecDepth 20000 in
theorem i84_26 : ex_ X d 84 26 [v0, v1, v2, v3] [w0] h Q = ex_ X d 84 27 [v0, v1, v2, v3] [.int 1, w0] h Q := R_iconst (show mx_at 84 26 = some (.iconst 1, 1) by decide +kernel) (by decide)
set_option maxRecDepth 20000 in
theorem i84_27 (hc : co_ h a = some 11) : ex_ X (d + 1) 84 27 [v0, v1, v2, v3] [.int x0, .ref a] h Q = ev_ X d 106 [.ref a, .int x0] h (fun r h' => ex_ X (d + 1) 84 30 [v0, v1, v2, v3] (r.toList ++ []) h' Q) := R_vir (show mx_at 84 27 = some (.invokevirtual 72, 3) by decide +kernel) (mx_clk ow84 cc11_72) (Nat.le_of_ble_eq_true rfl) rfl rfl hc rfl (Nat.le_of_ble_eq_true rfl) (Nat.le_of_ble_eq_true rfl) (by rw [ml106]; exact Nat.le_of_ble_eq_true rfl)
set_option maxRecDepth 20000 in
theorem i84_30 : ex_ X d 84 30 [v0, v1, v2, v3] [.int x] h Q = Q (some (.int x)) h := ex_ret (show mx_at 84 30 = some (.ireturn, 1) by decide +kernel) (mx_retI rt84)
set_option maxRecDepth 20000 in
theorem i84_31 : ex_ X d 84 31 [.ref a, v1, v2, v3] [] h Q = ex_ X d 84 32 [.ref a, v1, v2, v3] [.ref a] h Q := ex_nx (show mx_at 84 31 = some (.aload_n 0, 1) by decide +kernel) rfl
set_option maxRecDepth 20000 in
theorem i84_32 : ex_ X d 84 32 [v0, .int x, v2, v3] [w0] h Q = ex_ X d 84 33 [v0, .int x, v2, v3] [.int x, w0] h Q := ex_nx (show mx_at 84 32 = some (.iload_n 1, 1) by decide +kernel) rfl
set_option maxRecDepth 20000 in
theorem i84_33 (hc : co_ h a = some 11) : ex_ X (d + 1) 84 33 [v0, v1, v2, v3] [.int x0, .ref a] h Q = ev_ X d 119 [.ref a, .int x0] h (fun r h' => ex_ X (d + 1) 84 36 [v0, v1, v2, v3] (r.toList ++ []) h' Q) := R_vir (show mx_at 84 33 = some (.invokevirtual 215, 3) by decide +kernel) (mx_clk ow84 cc11_215) (Nat.le_of_ble_eq_true rfl) rfl rfl hc rfl (Nat.le_of_ble_eq_true rfl) (Nat.le_of_ble_eq_true rfl) (by rw [ml119]; exact Nat.le_of_ble_eq_true rfl)
set_option maxRecDepth 20000 in
theorem i84_36 : ex_ X d 84 36 [v0, v1, .int x, v3] [w0] h Q = ex_ X d 84 37 [v0, v1, .int x, v3] [.int x, w0] h Q := ex_nx (show mx_at 84 36 = some (.iload_n 2, 1) by decide +kernel) rfl
set_option maxRecDepth 20000 in
theorem i84_37 : ex_ X d 84 37 [v0, v1, v2, .int x] [w0, w1] h Q = ex_ X d 84 38 [v0, v1, v2, .int x] [.int x, w0, w1] h Q := ex_nx (show mx_at 84 37 = some (.iload_n 3, 1) by decide +kernel) rfl
set_option maxRecDepth 20000 in
theorem i84_38 (hc : co_ h a = some 3) : ex_ X (d + 1) 84 38 [v0, v1, v2, v3] [.int x1, .int x0, .ref a] h Q = ev_ X d 14 [.ref a, .int x0, .int x1] h (fun r h' => ex_ X (d + 1) 84 41 [v0, v1, v2, v3] (r.toList ++ []) h' Q) := R_vir (show mx_at 84 38 = some (.invokevirtual 91, 3) by decide +kernel) (mx_clk ow84 cc11_91) (Nat.le_of_ble_eq_true rfl) rfl rfl hc rfl (Nat.le_of_ble_eq_true rfl) (Nat.le_of_ble_eq_true rfl) (by rw [ml14]; exact Nat.le_of_ble_eq_true rfl)
set_option maxRecDepth 20000 in
theorem i84_41 : ex_ X d 84 41 [v0, v1, v2, v3] [.int x] h Q = Q (some (.int x)) h := ex_ret (show mx_at 84 41 = some (.ireturn, 1) by decide +kernel) (mx_retI rt84)
theorem i84_e : ev_ X d 84 [.ref a, .int x0, .int x1, .int x2] h Q = ex_ X d 84 0 [.ref a, .int x0, .int x1, .int x2] [] h Q := by rw [ev_, ml84]; rfl
-- 85 X11_waits
set_option maxRecDepth 20000 in
theorem i85_0 : ex_ X d 85 0 [v0, .int x, v2] [] h Q = ex_ X d 85 1 [v0, .int x, v2] [.int x] h Q := ex_nx (show mx_at 85 0 = some (.iload_n 1, 1) by decide +kernel) rfl
set_option maxRecDepth 20000 in
theorem i85_1 : ex_ X (d + 1) 85 1 [v0, v1, v2] [.int x0] h Q = ev_ X d 112 [.int x0] h (fun r h' => ex_ X (d + 1) 85 4 [v0, v1, v2] (r.toList ++ []) h' Q) := R_stat (show mx_at 85 1 = some (.invokestatic 212, 3) by decide +kernel) (mx_clk ow85 cc11_212) (Nat.le_of_ble_eq_true rfl) rfl rfl (Nat.le_of_ble_eq_true rfl) ml112 (Nat.le_of_ble_eq_true rfl)
set_option maxRecDepth 20000 in
theorem i85_4 : ex_ X d 85 4 [v0, v1, v2] [.int x] h Q = if x = 0 then ex_ X d 85 15 [v0, v1, v2] [] h Q else ex_ X d 85 7 [v0, v1, v2] [] h Q := (R_br (show mx_at 85 4 = some (.ifCond .eq 11, 3) by decide +kernel) rfl rfl).trans mx_ite
set_option maxRecDepth 20000 in
theorem i85_7 : ex_ X d 85 7 [.ref a, v1, v2] [] h Q = ex_ X d 85 8 [.ref a, v1, v2] [.ref a] h Q := ex_nx (show mx_at 85 7 = some (.aload_n 0, 1) by decide +kernel) rfl
set_option maxRecDepth 20000 in
theorem i85_8 : ex_ X d 85 8 [v0, v1, .int x] [w0] h Q = ex_ X d 85 9 [v0, v1, .int x] [.int x, w0] h Q := ex_nx (show mx_at 85 8 = some (.iload_n 2, 1) by decide +kernel) rfl
set_option maxRecDepth 20000 in
theorem i85_9 (hc : co_ h a = some 11) : ex_ X (d + 1) 85 9 [v0, v1, v2] [.int x0, .ref a] h Q = ev_ X d 109 [.ref a, .int x0] h (fun r h' => ex_ X (d + 1) 85 12 [v0, v1, v2] (r.toList ++ []) h' Q) := R_vir (show mx_at 85 9 = some (.invokevirtual 134, 3) by decide +kernel) (mx_clk ow85 cc11_134) (Nat.le_of_ble_eq_true rfl) rfl rfl hc rfl (Nat.le_of_ble_eq_true rfl) (Nat.le_of_ble_eq_true rfl) (by rw [ml109]; exact Nat.le_of_ble_eq_true rfl)
set_option maxRecDepth 20000 in
theorem i85_12 : ex_ X d 85 12 [v0, v1, v2] [.int x] h Q = if ¬ x = 0 then ex_ X d 85 21 [v0, v1, v2] [] h Q else ex_ X d 85 15 [v0, v1, v2] [] h Q := (R_br (show mx_at 85 12 = some (.ifCond .ne 9, 3) by decide +kernel) rfl rfl).trans mx_ite
set_option maxRecDepth 20000 in
theorem i85_15 : ex_ X d 85 15 [.ref a, v1, v2] [] h Q = ex_ X d 85 16 [.ref a, v1, v2] [.ref a] h Q := ex_nx (show mx_at 85 15 = some (.aload_n 0, 1) by decide +kernel) rfl
set_option maxRecDepth 20000 in
theorem i85_16 : ex_ X d 85 16 [v0, v1, v2] [w0] h Q = ex_ X d 85 17 [v0, v1, v2] [.int 1, w0] h Q := R_iconst (show mx_at 85 16 = some (.iconst 1, 1) by decide +kernel) (by decide)
set_option maxRecDepth 20000 in
theorem i85_17 (hc : co_ h a = some 11) : ex_ X (d + 1) 85 17 [v0, v1, v2] [.int x0, .ref a] h Q = ev_ X d 106 [.ref a, .int x0] h (fun r h' => ex_ X (d + 1) 85 20 [v0, v1, v2] (r.toList ++ []) h' Q) := R_vir (show mx_at 85 17 = some (.invokevirtual 72, 3) by decide +kernel) (mx_clk ow85 cc11_72) (Nat.le_of_ble_eq_true rfl) rfl rfl hc rfl (Nat.le_of_ble_eq_true rfl) (Nat.le_of_ble_eq_true rfl) (by rw [ml106]; exact Nat.le_of_ble_eq_true rfl)
set_option maxRecDepth 20000 in
theorem i85_20 : ex_ X d 85 20 [v0, v1, v2] [.int x] h Q = Q (some (.int x)) h := ex_ret (show mx_at 85 20 = some (.ireturn, 1) by decide +kernel) (mx_retI rt85)
set_option maxRecDepth 20000 in
theorem i85_21 : ex_ X d 85 21 [.ref a, v1, v2] [] h Q = ex_ X d 85 22 [.ref a, v1, v2] [.ref a] h Q := ex_nx (show mx_at 85 21 = some (.aload_n 0, 1) by decide +kernel) rfl
set_option maxRecDepth 20000 in
theorem i85_22 : ex_ X d 85 22 [v0, .int x, v2] [w0] h Q = ex_ X d 85 23 [v0, .int x, v2] [.int x, w0] h Q := ex_nx (show mx_at 85 22 = some (.iload_n 1, 1) by decide +kernel) rfl
set_option maxRecDepth 20000 in
theorem i85_23 (hc : co_ h a = some 11) : ex_ X (d + 1) 85 23 [v0, v1, v2] [.int x0, .ref a] h Q = ev_ X d 119 [.ref a, .int x0] h (fun r h' => ex_ X (d + 1) 85 26 [v0, v1, v2] (r.toList ++ []) h' Q) := R_vir (show mx_at 85 23 = some (.invokevirtual 215, 3) by decide +kernel) (mx_clk ow85 cc11_215) (Nat.le_of_ble_eq_true rfl) rfl rfl hc rfl (Nat.le_of_ble_eq_true rfl) (Nat.le_of_ble_eq_true rfl) (by rw [ml119]; exact Nat.le_of_ble_eq_true rfl)
set_option maxRecDepth 20000 in
theorem i85_26 : ex_ X d 85 26 [v0, v1, v2] [.ref a] h Q = (gk_ h a 16 [(3, 0)] = true ∧ ex_ X d 85 29 [v0, v1, v2] [gv_ h a 16] h Q) := R_getf (show mx_at 85 26 = some (.getfield 146, 3) by decide +kernel) (mx_fdo ow85 fd110146)
set_option maxRecDepth 20000 in
theorem i85_29 : ex_ X d 85 29 [v0, v1, .int x] [w0] h Q = ex_ X d 85 30 [v0, v1, .int x] [.int x, w0] h Q := ex_nx (show mx_at 85 29 = some (.iload_n 2, 1) by decide +kernel) rfl
set_option maxRecDepth 20000 in
theorem i85_30 : ex_ X d 85 30 [v0, v1, v2] [.int i, .ref a] h Q = (ik_ h a i = true ∧ ex_ X d 85 31 [v0, v1, v2] [.int (ia_ h a i)] h Q) := R_iald (show mx_at 85 30 = some (.iaload, 1) by decide +kernel)
set_option maxRecDepth 20000 in
theorem i85_31 : ex_ X d 85 31 [v0, v1, v2] [.int x] h Q = Q (some (.int x)) h := ex_ret (show mx_at 85 31 = some (.ireturn, 1) by decide +kernel) (mx_retI rt85)
theorem i85_e : ev_ X d 85 [.ref a, .int x0, .int x1] h Q = ex_ X d 85 0 [.ref a, .int x0, .int x1] [] h Q := by rw [ev_, ml85]; rfl
-- 86 X11_earned
set_option maxRecDepth 20000 in
theorem i86_0 : ex_ X d 86 0 [v0, .int x] [] h Q = ex_ X d 86 1 [v0, .int x] [.int x] h Q := ex_nx (show mx_at 86 0 = some (.iload_n 1, 1) by decide +kernel) rfl
set_option maxRecDepth 20000 in
theorem i86_1 : ex_ X (d + 1) 86 1 [v0, v1] [.int x0] h Q = ev_ X d 112 [.int x0] h (fun r h' => ex_ X (d + 1) 86 4 [v0, v1] (r.toList ++ []) h' Q) := R_stat (show mx_at 86 1 = some (.invokestatic 212, 3) by decide +kernel) (mx_clk ow86 cc11_212) (Nat.le_of_ble_eq_true rfl) rfl rfl (Nat.le_of_ble_eq_true rfl) ml112 (Nat.le_of_ble_eq_true rfl)
set_option maxRecDepth 20000 in
theorem i86_4 : ex_ X d 86 4 [v0, v1] [.int x] h Q = if ¬ x = 0 then ex_ X d 86 13 [v0, v1] [] h Q else ex_ X d 86 7 [v0, v1] [] h Q := (R_br (show mx_at 86 4 = some (.ifCond .ne 9, 3) by decide +kernel) rfl rfl).trans mx_ite
set_option maxRecDepth 20000 in
theorem i86_7 : ex_ X d 86 7 [.ref a, v1] [] h Q = ex_ X d 86 8 [.ref a, v1] [.ref a] h Q := ex_nx (show mx_at 86 7 = some (.aload_n 0, 1) by decide +kernel) rfl
set_option maxRecDepth 20000 in
theorem i86_8 : ex_ X d 86 8 [v0, v1] [w0] h Q = ex_ X d 86 9 [v0, v1] [.int 1, w0] h Q := R_iconst (show mx_at 86 8 = some (.iconst 1, 1) by decide +kernel) (by decide)
set_option maxRecDepth 20000 in
theorem i86_9 (hc : co_ h a = some 11) : ex_ X (d + 1) 86 9 [v0, v1] [.int x0, .ref a] h Q = ev_ X d 106 [.ref a, .int x0] h (fun r h' => ex_ X (d + 1) 86 12 [v0, v1] (r.toList ++ []) h' Q) := R_vir (show mx_at 86 9 = some (.invokevirtual 72, 3) by decide +kernel) (mx_clk ow86 cc11_72) (Nat.le_of_ble_eq_true rfl) rfl rfl hc rfl (Nat.le_of_ble_eq_true rfl) (Nat.le_of_ble_eq_true rfl) (by rw [ml106]; exact Nat.le_of_ble_eq_true rfl)
set_option maxRecDepth 20000 in
theorem i86_12 : ex_ X d 86 12 [v0, v1] [.int x] h Q = Q (some (.int x)) h := ex_ret (show mx_at 86 12 = some (.ireturn, 1) by decide +kernel) (mx_retI rt86)
set_option maxRecDepth 20000 in
theorem i86_13 : ex_ X d 86 13 [.ref a, v1] [] h Q = ex_ X d 86 14 [.ref a, v1] [.ref a] h Q := ex_nx (show mx_at 86 13 = some (.aload_n 0, 1) by decide +kernel) rfl
set_option maxRecDepth 20000 in
theorem i86_14 : ex_ X d 86 14 [v0, .int x] [w0] h Q = ex_ X d 86 15 [v0, .int x] [.int x, w0] h Q := ex_nx (show mx_at 86 14 = some (.iload_n 1, 1) by decide +kernel) rfl
set_option maxRecDepth 20000 in
theorem i86_15 (hc : co_ h a = some 11) : ex_ X (d + 1) 86 15 [v0, v1] [.int x0, .ref a] h Q = ev_ X d 119 [.ref a, .int x0] h (fun r h' => ex_ X (d + 1) 86 18 [v0, v1] (r.toList ++ []) h' Q) := R_vir (show mx_at 86 15 = some (.invokevirtual 215, 3) by decide +kernel) (mx_clk ow86 cc11_215) (Nat.le_of_ble_eq_true rfl) rfl rfl hc rfl (Nat.le_of_ble_eq_true rfl) (Nat.le_of_ble_eq_true rfl) (by rw [ml119]; exact Nat.le_of_ble_eq_true rfl)
set_option maxRecDepth 20000 in
theorem i86_18 (hc : co_ h a = some 3) : ex_ X (d + 1) 86 18 [v0, v1] [.ref a] h Q = ev_ X d 25 [.ref a] h (fun r h' => ex_ X (d + 1) 86 21 [v0, v1] (r.toList ++ []) h' Q) := R_vir (show mx_at 86 18 = some (.invokevirtual 219, 3) by decide +kernel) (mx_clk ow86 cc11_219) (Nat.le_of_ble_eq_true rfl) rfl rfl hc rfl (Nat.le_of_ble_eq_true rfl) (Nat.le_of_ble_eq_true rfl) (by rw [ml25]; exact Nat.le_of_ble_eq_true rfl)
set_option maxRecDepth 20000 in
theorem i86_21 : ex_ X d 86 21 [v0, v1] [.int x] h Q = Q (some (.int x)) h := ex_ret (show mx_at 86 21 = some (.ireturn, 1) by decide +kernel) (mx_retI rt86)
theorem i86_e : ev_ X d 86 [.ref a, .int x0] h Q = ex_ X d 86 0 [.ref a, .int x0] [] h Q := by rw [ev_, ml86]; rfl
-- 87 X11_lost
set_option maxRecDepth 20000 in
theorem i87_0 : ex_ X d 87 0 [v0, .int x] [] h Q = ex_ X d 87 1 [v0, .int x] [.int x] h Q := ex_nx (show mx_at 87 0 = some (.iload_n 1, 1) by decide +kernel) rfl
set_option maxRecDepth 20000 in
theorem i87_1 : ex_ X (d + 1) 87 1 [v0, v1] [.int x0] h Q = ev_ X d 112 [.int x0] h (fun r h' => ex_ X (d + 1) 87 4 [v0, v1] (r.toList ++ []) h' Q) := R_stat (show mx_at 87 1 = some (.invokestatic 212, 3) by decide +kernel) (mx_clk ow87 cc11_212) (Nat.le_of_ble_eq_true rfl) rfl rfl (Nat.le_of_ble_eq_true rfl) ml112 (Nat.le_of_ble_eq_true rfl)
set_option maxRecDepth 20000 in
theorem i87_4 : ex_ X d 87 4 [v0, v1] [.int x] h Q = if ¬ x = 0 then ex_ X d 87 13 [v0, v1] [] h Q else ex_ X d 87 7 [v0, v1] [] h Q := (R_br (show mx_at 87 4 = some (.ifCond .ne 9, 3) by decide +kernel) rfl rfl).trans mx_ite
set_option maxRecDepth 20000 in
theorem i87_7 : ex_ X d 87 7 [.ref a, v1] [] h Q = ex_ X d 87 8 [.ref a, v1] [.ref a] h Q := ex_nx (show mx_at 87 7 = some (.aload_n 0, 1) by decide +kernel) rfl
set_option maxRecDepth 20000 in
theorem i87_8 : ex_ X d 87 8 [v0, v1] [w0] h Q = ex_ X d 87 9 [v0, v1] [.int 1, w0] h Q := R_iconst (show mx_at 87 8 = some (.iconst 1, 1) by decide +kernel) (by decide)
set_option maxRecDepth 20000 in
theorem i87_9 (hc : co_ h a = some 11) : ex_ X (d + 1) 87 9 [v0, v1] [.int x0, .ref a] h Q = ev_ X d 106 [.ref a, .int x0] h (fun r h' => ex_ X (d + 1) 87 12 [v0, v1] (r.toList ++ []) h' Q) := R_vir (show mx_at 87 9 = some (.invokevirtual 72, 3) by decide +kernel) (mx_clk ow87 cc11_72) (Nat.le_of_ble_eq_true rfl) rfl rfl hc rfl (Nat.le_of_ble_eq_true rfl) (Nat.le_of_ble_eq_true rfl) (by rw [ml106]; exact Nat.le_of_ble_eq_true rfl)
set_option maxRecDepth 20000 in
theorem i87_12 : ex_ X d 87 12 [v0, v1] [.int x] h Q = Q (some (.int x)) h := ex_ret (show mx_at 87 12 = some (.ireturn, 1) by decide +kernel) (mx_retI rt87)
set_option maxRecDepth 20000 in
theorem i87_13 : ex_ X d 87 13 [.ref a, v1] [] h Q = ex_ X d 87 14 [.ref a, v1] [.ref a] h Q := ex_nx (show mx_at 87 13 = some (.aload_n 0, 1) by decide +kernel) rfl
set_option maxRecDepth 20000 in
theorem i87_14 : ex_ X d 87 14 [v0, .int x] [w0] h Q = ex_ X d 87 15 [v0, .int x] [.int x, w0] h Q := ex_nx (show mx_at 87 14 = some (.iload_n 1, 1) by decide +kernel) rfl
set_option maxRecDepth 20000 in
theorem i87_15 (hc : co_ h a = some 11) : ex_ X (d + 1) 87 15 [v0, v1] [.int x0, .ref a] h Q = ev_ X d 119 [.ref a, .int x0] h (fun r h' => ex_ X (d + 1) 87 18 [v0, v1] (r.toList ++ []) h' Q) := R_vir (show mx_at 87 15 = some (.invokevirtual 215, 3) by decide +kernel) (mx_clk ow87 cc11_215) (Nat.le_of_ble_eq_true rfl) rfl rfl hc rfl (Nat.le_of_ble_eq_true rfl) (Nat.le_of_ble_eq_true rfl) (by rw [ml119]; exact Nat.le_of_ble_eq_true rfl)
set_option maxRecDepth 20000 in
theorem i87_18 (hc : co_ h a = some 3) : ex_ X (d + 1) 87 18 [v0, v1] [.ref a] h Q = ev_ X d 27 [.ref a] h (fun r h' => ex_ X (d + 1) 87 21 [v0, v1] (r.toList ++ []) h' Q) := R_vir (show mx_at 87 18 = some (.invokevirtual 223, 3) by decide +kernel) (mx_clk ow87 cc11_223) (Nat.le_of_ble_eq_true rfl) rfl rfl hc rfl (Nat.le_of_ble_eq_true rfl) (Nat.le_of_ble_eq_true rfl) (by rw [ml27]; exact Nat.le_of_ble_eq_true rfl)
set_option maxRecDepth 20000 in
theorem i87_21 : ex_ X d 87 21 [v0, v1] [.int x] h Q = Q (some (.int x)) h := ex_ret (show mx_at 87 21 = some (.ireturn, 1) by decide +kernel) (mx_retI rt87)
theorem i87_e : ev_ X d 87 [.ref a, .int x0] h Q = ex_ X d 87 0 [.ref a, .int x0] [] h Q := by rw [ev_, ml87]; rfl
-- 88 X11_begin
set_option maxRecDepth 20000 in
theorem i88_0 : ex_ X d 88 0 [.ref a, v1, v2, v3, v4, v5, v6] [] h Q = ex_ X d 88 1 [.ref a, v1, v2, v3, v4, v5, v6] [.ref a] h Q := ex_nx (show mx_at 88 0 = some (.aload_n 0, 1) by decide +kernel) rfl
set_option maxRecDepth 20000 in
theorem i88_1 : ex_ X d 88 1 [v0, .int x, v2, v3, v4, v5, v6] [w0] h Q = ex_ X d 88 2 [v0, .int x, v2, v3, v4, v5, v6] [.int x, w0] h Q := ex_nx (show mx_at 88 1 = some (.iload_n 1, 1) by decide +kernel) rfl
set_option maxRecDepth 20000 in
theorem i88_2 (hc : co_ h a = some 11) : ex_ X (d + 1) 88 2 [v0, v1, v2, v3, v4, v5, v6] [.int x0, .ref a] h Q = ev_ X d 108 [.ref a, .int x0] h (fun r h' => ex_ X (d + 1) 88 5 [v0, v1, v2, v3, v4, v5, v6] (r.toList ++ []) h' Q) := R_vir (show mx_at 88 2 = some (.invokevirtual 87, 3) by decide +kernel) (mx_clk ow88 cc11_87) (Nat.le_of_ble_eq_true rfl) rfl rfl hc rfl (Nat.le_of_ble_eq_true rfl) (Nat.le_of_ble_eq_true rfl) (by rw [ml108]; exact Nat.le_of_ble_eq_true rfl)
set_option maxRecDepth 20000 in
theorem i88_5 : ex_ X d 88 5 [v0, v1, v2, v3, v4, v5, v6] [.int x] h Q = if x = 0 then ex_ X d 88 18 [v0, v1, v2, v3, v4, v5, v6] [] h Q else ex_ X d 88 8 [v0, v1, v2, v3, v4, v5, v6] [] h Q := (R_br (show mx_at 88 5 = some (.ifCond .eq 13, 3) by decide +kernel) rfl rfl).trans mx_ite
set_option maxRecDepth 20000 in
theorem i88_8 : ex_ X d 88 8 [v0, v1, .int x, v3, v4, v5, v6] [] h Q = ex_ X d 88 9 [v0, v1, .int x, v3, v4, v5, v6] [.int x] h Q := ex_nx (show mx_at 88 8 = some (.iload_n 2, 1) by decide +kernel) rfl
set_option maxRecDepth 20000 in
theorem i88_9 : ex_ X d 88 9 [v0, v1, v2, v3, v4, v5, v6] [w0] h Q = ex_ X d 88 10 [v0, v1, v2, v3, v4, v5, v6] [.int 1, w0] h Q := R_iconst (show mx_at 88 9 = some (.iconst 1, 1) by decide +kernel) (by decide)
set_option maxRecDepth 20000 in
theorem i88_10 : ex_ X d 88 10 [v0, v1, v2, v3, v4, v5, v6] [w0, w1] h Q = ex_ X d 88 12 [v0, v1, v2, v3, v4, v5, v6] [.int 9, w0, w1] h Q := R_bipush (show mx_at 88 10 = some (.bipush 9, 2) by decide +kernel) (by decide)
set_option maxRecDepth 20000 in
theorem i88_12 : ex_ X (d + 1) 88 12 [v0, v1, v2, v3, v4, v5, v6] [.int x2, .int x1, .int x0] h Q = ev_ X d 107 [.int x0, .int x1, .int x2] h (fun r h' => ex_ X (d + 1) 88 15 [v0, v1, v2, v3, v4, v5, v6] (r.toList ++ []) h' Q) := R_stat (show mx_at 88 12 = some (.invokestatic 68, 3) by decide +kernel) (mx_clk ow88 cc11_68) (Nat.le_of_ble_eq_true rfl) rfl rfl (Nat.le_of_ble_eq_true rfl) ml107 (Nat.le_of_ble_eq_true rfl)
set_option maxRecDepth 20000 in
theorem i88_15 : ex_ X d 88 15 [v0, v1, v2, v3, v4, v5, v6] [.int x] h Q = if ¬ x = 0 then ex_ X d 88 24 [v0, v1, v2, v3, v4, v5, v6] [] h Q else ex_ X d 88 18 [v0, v1, v2, v3, v4, v5, v6] [] h Q := (R_br (show mx_at 88 15 = some (.ifCond .ne 9, 3) by decide +kernel) rfl rfl).trans mx_ite
set_option maxRecDepth 20000 in
theorem i88_18 : ex_ X d 88 18 [.ref a, v1, v2, v3, v4, v5, v6] [] h Q = ex_ X d 88 19 [.ref a, v1, v2, v3, v4, v5, v6] [.ref a] h Q := ex_nx (show mx_at 88 18 = some (.aload_n 0, 1) by decide +kernel) rfl
set_option maxRecDepth 20000 in
theorem i88_19 : ex_ X d 88 19 [v0, v1, v2, v3, v4, v5, v6] [w0] h Q = ex_ X d 88 20 [v0, v1, v2, v3, v4, v5, v6] [.int 1, w0] h Q := R_iconst (show mx_at 88 19 = some (.iconst 1, 1) by decide +kernel) (by decide)
set_option maxRecDepth 20000 in
theorem i88_20 (hc : co_ h a = some 11) : ex_ X (d + 1) 88 20 [v0, v1, v2, v3, v4, v5, v6] [.int x0, .ref a] h Q = ev_ X d 106 [.ref a, .int x0] h (fun r h' => ex_ X (d + 1) 88 23 [v0, v1, v2, v3, v4, v5, v6] (r.toList ++ []) h' Q) := R_vir (show mx_at 88 20 = some (.invokevirtual 72, 3) by decide +kernel) (mx_clk ow88 cc11_72) (Nat.le_of_ble_eq_true rfl) rfl rfl hc rfl (Nat.le_of_ble_eq_true rfl) (Nat.le_of_ble_eq_true rfl) (by rw [ml106]; exact Nat.le_of_ble_eq_true rfl)
set_option maxRecDepth 20000 in
theorem i88_23 : ex_ X d 88 23 [v0, v1, v2, v3, v4, v5, v6] [.int x] h Q = Q (some (.int x)) h := ex_ret (show mx_at 88 23 = some (.ireturn, 1) by decide +kernel) (mx_retI rt88)
set_option maxRecDepth 20000 in
theorem i88_24 : ex_ X d 88 24 [v0, v1, v2, v3, v4, v5, v6] [] h Q = ex_ X d 88 25 [v0, v1, v2, v3, v4, v5, v6] [.int 0] h Q := R_iconst (show mx_at 88 24 = some (.iconst 0, 1) by decide +kernel) (by decide)
set_option maxRecDepth 20000 in
theorem i88_25 : ex_ X d 88 25 [v0, v1, v2, v3, v4, v5, v6] [.int x] h Q = (mx_nl v2 = true ∧ ex_ X d 88 26 [v0, v1, v2, .int x, v4, v5, v6] [] h Q) := mx_t1 (R_st (ok := mx_isI) (n := 3) (w := 1) (show mx_at 88 25 = some (.istore_n 3, 1) by decide +kernel) (fun _ _ => rfl) (Nat.le_of_ble_eq_true rfl)) rfl
set_option maxRecDepth 20000 in
theorem i88_26 : ex_ X d 88 26 [v0, v1, v2, v3, v4, v5, v6] [] h Q = ex_ X d 88 28 [v0, v1, v2, v3, v4, v5, v6] [.int (-100000000)] h Q := R_ldc (show mx_at 88 26 = some (.ldc 226, 2) by decide +kernel) (by decide) ow88 ki110226
set_option maxRecDepth 20000 in
theorem i88_28 : ex_ X d 88 28 [v0, v1, v2, v3, v4, v5, v6] [.int x] h Q = (mx_nl v3 = true ∧ ex_ X d 88 30 [v0, v1, v2, v3, .int x, v5, v6] [] h Q) := mx_t1 (R_st (ok := mx_isI) (n := 4) (w := 2) (show mx_at 88 28 = some (.istore 4, 2) by decide +kernel) (fun _ _ => rfl) (Nat.le_of_ble_eq_true rfl)) rfl
set_option maxRecDepth 20000 in
theorem i88_30 : ex_ X d 88 30 [v0, v1, v2, v3, v4, v5, v6] [] h Q = ex_ X d 88 31 [v0, v1, v2, v3, v4, v5, v6] [.int 0] h Q := R_iconst (show mx_at 88 30 = some (.iconst 0, 1) by decide +kernel) (by decide)
set_option maxRecDepth 20000 in
theorem i88_31 : ex_ X d 88 31 [v0, v1, v2, v3, v4, v5, v6] [.int x] h Q = (mx_nl v4 = true ∧ ex_ X d 88 33 [v0, v1, v2, v3, v4, .int x, v6] [] h Q) := mx_t1 (R_st (ok := mx_isI) (n := 5) (w := 2) (show mx_at 88 31 = some (.istore 5, 2) by decide +kernel) (fun _ _ => rfl) (Nat.le_of_ble_eq_true rfl)) rfl
set_option maxRecDepth 20000 in
theorem i88_33 : ex_ X d 88 33 [v0, v1, v2, v3, v4, .int x, v6] [] h Q = ex_ X d 88 35 [v0, v1, v2, v3, v4, .int x, v6] [.int x] h Q := ex_nx (show mx_at 88 33 = some (.iload 5, 2) by decide +kernel) rfl
set_option maxRecDepth 20000 in
theorem i88_35 : ex_ X d 88 35 [v0, v1, v2, v3, v4, v5, v6] [w0] h Q = ex_ X d 88 38 [v0, v1, v2, v3, v4, v5, v6] [.int 999, w0] h Q := R_sipush (show mx_at 88 35 = some (.sipush 999, 3) by decide +kernel) (by decide)
set_option maxRecDepth 20000 in
theorem i88_38 : ex_ X d 88 38 [v0, v1, v2, v3, v4, v5, v6] [.int y, .int x] h Q = if y < x then ex_ X d 88 71 [v0, v1, v2, v3, v4, v5, v6] [] h Q else ex_ X d 88 41 [v0, v1, v2, v3, v4, v5, v6] [] h Q := (R_br (show mx_at 88 38 = some (.if_icmp .gt 33, 3) by decide +kernel) rfl rfl).trans mx_ite
set_option maxRecDepth 20000 in
theorem i88_41 : ex_ X d 88 41 [.ref a, v1, v2, v3, v4, v5, v6] [] h Q = ex_ X d 88 42 [.ref a, v1, v2, v3, v4, v5, v6] [.ref a] h Q := ex_nx (show mx_at 88 41 = some (.aload_n 0, 1) by decide +kernel) rfl
set_option maxRecDepth 20000 in
theorem i88_42 : ex_ X d 88 42 [v0, .int x, v2, v3, v4, v5, v6] [w0] h Q = ex_ X d 88 43 [v0, .int x, v2, v3, v4, v5, v6] [.int x, w0] h Q := ex_nx (show mx_at 88 42 = some (.iload_n 1, 1) by decide +kernel) rfl
set_option maxRecDepth 20000 in
theorem i88_43 : ex_ X d 88 43 [v0, v1, v2, v3, v4, .int x, v6] [w0, w1] h Q = ex_ X d 88 45 [v0, v1, v2, v3, v4, .int x, v6] [.int x, w0, w1] h Q := ex_nx (show mx_at 88 43 = some (.iload 5, 2) by decide +kernel) rfl
set_option maxRecDepth 20000 in
theorem i88_45 : ex_ X d 88 45 [v0, v1, .int x, v3, v4, v5, v6] [w0, w1, w2] h Q = ex_ X d 88 46 [v0, v1, .int x, v3, v4, v5, v6] [.int x, w0, w1, w2] h Q := ex_nx (show mx_at 88 45 = some (.iload_n 2, 1) by decide +kernel) rfl
set_option maxRecDepth 20000 in
theorem i88_46 (hc : co_ h a = some 11) : ex_ X (d + 1) 88 46 [v0, v1, v2, v3, v4, v5, v6] [.int x2, .int x1, .int x0, .ref a] h Q = ev_ X d 120 [.ref a, .int x0, .int x1, .int x2] h (fun r h' => ex_ X (d + 1) 88 49 [v0, v1, v2, v3, v4, v5, v6] (r.toList ++ []) h' Q) := R_vir (show mx_at 88 46 = some (.invokevirtual 227, 3) by decide +kernel) (mx_clk ow88 cc11_227) (Nat.le_of_ble_eq_true rfl) rfl rfl hc rfl (Nat.le_of_ble_eq_true rfl) (Nat.le_of_ble_eq_true rfl) (by rw [ml120]; exact Nat.le_of_ble_eq_true rfl)
set_option maxRecDepth 20000 in
theorem i88_49 : ex_ X d 88 49 [v0, v1, v2, v3, v4, v5, v6] [.int x] h Q = (mx_nl v5 = true ∧ ex_ X d 88 51 [v0, v1, v2, v3, v4, v5, .int x] [] h Q) := mx_t1 (R_st (ok := mx_isI) (n := 6) (w := 2) (show mx_at 88 49 = some (.istore 6, 2) by decide +kernel) (fun _ _ => rfl) (Nat.le_of_ble_eq_true rfl)) rfl
set_option maxRecDepth 20000 in
theorem i88_51 : ex_ X d 88 51 [v0, v1, v2, v3, v4, v5, .int x] [] h Q = ex_ X d 88 53 [v0, v1, v2, v3, v4, v5, .int x] [.int x] h Q := ex_nx (show mx_at 88 51 = some (.iload 6, 2) by decide +kernel) rfl
set_option maxRecDepth 20000 in
theorem i88_53 : ex_ X d 88 53 [v0, v1, v2, v3, .int x, v5, v6] [w0] h Q = ex_ X d 88 55 [v0, v1, v2, v3, .int x, v5, v6] [.int x, w0] h Q := ex_nx (show mx_at 88 53 = some (.iload 4, 2) by decide +kernel) rfl
set_option maxRecDepth 20000 in
theorem i88_55 : ex_ X d 88 55 [v0, v1, v2, v3, v4, v5, v6] [.int y, .int x] h Q = if x ≤ y then ex_ X d 88 65 [v0, v1, v2, v3, v4, v5, v6] [] h Q else ex_ X d 88 58 [v0, v1, v2, v3, v4, v5, v6] [] h Q := (R_br (show mx_at 88 55 = some (.if_icmp .le 10, 3) by decide +kernel) rfl rfl).trans mx_ite
set_option maxRecDepth 20000 in
theorem i88_58 : ex_ X d 88 58 [v0, v1, v2, v3, v4, v5, .int x] [] h Q = ex_ X d 88 60 [v0, v1, v2, v3, v4, v5, .int x] [.int x] h Q := ex_nx (show mx_at 88 58 = some (.iload 6, 2) by decide +kernel) rfl
set_option maxRecDepth 20000 in
theorem i88_60 : ex_ X d 88 60 [v0, v1, v2, v3, v4, v5, v6] [.int x] h Q = (mx_nl v3 = true ∧ ex_ X d 88 62 [v0, v1, v2, v3, .int x, v5, v6] [] h Q) := mx_t1 (R_st (ok := mx_isI) (n := 4) (w := 2) (show mx_at 88 60 = some (.istore 4, 2) by decide +kernel) (fun _ _ => rfl) (Nat.le_of_ble_eq_true rfl)) rfl
set_option maxRecDepth 20000 in
theorem i88_62 : ex_ X d 88 62 [v0, v1, v2, v3, v4, .int x, v6] [] h Q = ex_ X d 88 64 [v0, v1, v2, v3, v4, .int x, v6] [.int x] h Q := ex_nx (show mx_at 88 62 = some (.iload 5, 2) by decide +kernel) rfl
set_option maxRecDepth 20000 in
theorem i88_64 : ex_ X d 88 64 [v0, v1, v2, v3, v4, v5, v6] [.int x] h Q = (mx_nl v2 = true ∧ ex_ X d 88 65 [v0, v1, v2, .int x, v4, v5, v6] [] h Q) := mx_t1 (R_st (ok := mx_isI) (n := 3) (w := 1) (show mx_at 88 64 = some (.istore_n 3, 1) by decide +kernel) (fun _ _ => rfl) (Nat.le_of_ble_eq_true rfl)) rfl
set_option maxRecDepth 20000 in
theorem i88_65 : ex_ X d 88 65 [v0, v1, v2, v3, v4, .int x, v6] [] h Q = (mx_nl v4 = true ∧ ex_ X d 88 68 [v0, v1, v2, v3, v4, .int (x + 10), v6] [] h Q) := R_iinc (n := 5) (c := 10) (show mx_at 88 65 = some (.iinc 5 10, 3) by decide +kernel) rfl
set_option maxRecDepth 20000 in
theorem i88_68 : ex_ X d 88 68 [v0, v1, v2, v3, v4, v5, v6] [] h Q = ex_ X d 88 33 [v0, v1, v2, v3, v4, v5, v6] [] h Q := R_to (show mx_at 88 68 = some (.goto (-35), 3) by decide +kernel) rfl rfl
set_option maxRecDepth 20000 in
theorem i88_71 : ex_ X d 88 71 [v0, v1, v2, .int x, v4, v5, v6] [] h Q = ex_ X d 88 72 [v0, v1, v2, .int x, v4, v5, v6] [.int x] h Q := ex_nx (show mx_at 88 71 = some (.iload_n 3, 1) by decide +kernel) rfl
set_option maxRecDepth 20000 in
theorem i88_72 : ex_ X d 88 72 [v0, v1, v2, v3, v4, v5, v6] [.int x] h Q = Q (some (.int x)) h := ex_ret (show mx_at 88 72 = some (.ireturn, 1) by decide +kernel) (mx_retI rt88)
theorem i88_e : ev_ X d 88 [.ref a, .int x0, .int x1] h Q = ex_ X d 88 0 [.ref a, .int x0, .int x1, .double 0, .double 0, .double 0, .double 0] [] h Q := by rw [ev_, ml88]; rfl
-- 89 X11_right
set_option maxRecDepth 20000 in
theorem i89_0 : ex_ X d 89 0 [.ref a, v1, v2, v3] [] h Q = ex_ X d 89 1 [.ref a, v1, v2, v3] [.ref a] h Q := ex_nx (show mx_at 89 0 = some (.aload_n 0, 1) by decide +kernel) rfl
set_option maxRecDepth 20000 in
theorem i89_1 : ex_ X d 89 1 [v0, .int x, v2, v3] [w0] h Q = ex_ X d 89 2 [v0, .int x, v2, v3] [.int x, w0] h Q := ex_nx (show mx_at 89 1 = some (.iload_n 1, 1) by decide +kernel) rfl
set_option maxRecDepth 20000 in
theorem i89_2 (hc : co_ h a = some 11) : ex_ X (d + 1) 89 2 [v0, v1, v2, v3] [.int x0, .ref a] h Q = ev_ X d 108 [.ref a, .int x0] h (fun r h' => ex_ X (d + 1) 89 5 [v0, v1, v2, v3] (r.toList ++ []) h' Q) := R_vir (show mx_at 89 2 = some (.invokevirtual 87, 3) by decide +kernel) (mx_clk ow89 cc11_87) (Nat.le_of_ble_eq_true rfl) rfl rfl hc rfl (Nat.le_of_ble_eq_true rfl) (Nat.le_of_ble_eq_true rfl) (by rw [ml108]; exact Nat.le_of_ble_eq_true rfl)
set_option maxRecDepth 20000 in
theorem i89_5 : ex_ X d 89 5 [v0, v1, v2, v3] [.int x] h Q = if x = 0 then ex_ X d 89 15 [v0, v1, v2, v3] [] h Q else ex_ X d 89 8 [v0, v1, v2, v3] [] h Q := (R_br (show mx_at 89 5 = some (.ifCond .eq 10, 3) by decide +kernel) rfl rfl).trans mx_ite
set_option maxRecDepth 20000 in
theorem i89_8 : ex_ X d 89 8 [v0, v1, .int x, v3] [] h Q = ex_ X d 89 9 [v0, v1, .int x, v3] [.int x] h Q := ex_nx (show mx_at 89 8 = some (.iload_n 2, 1) by decide +kernel) rfl
set_option maxRecDepth 20000 in
theorem i89_9 : ex_ X (d + 1) 89 9 [v0, v1, v2, v3] [.int x0] h Q = ev_ X d 112 [.int x0] h (fun r h' => ex_ X (d + 1) 89 12 [v0, v1, v2, v3] (r.toList ++ []) h' Q) := R_stat (show mx_at 89 9 = some (.invokestatic 212, 3) by decide +kernel) (mx_clk ow89 cc11_212) (Nat.le_of_ble_eq_true rfl) rfl rfl (Nat.le_of_ble_eq_true rfl) ml112 (Nat.le_of_ble_eq_true rfl)
set_option maxRecDepth 20000 in
theorem i89_12 : ex_ X d 89 12 [v0, v1, v2, v3] [.int x] h Q = if ¬ x = 0 then ex_ X d 89 21 [v0, v1, v2, v3] [] h Q else ex_ X d 89 15 [v0, v1, v2, v3] [] h Q := (R_br (show mx_at 89 12 = some (.ifCond .ne 9, 3) by decide +kernel) rfl rfl).trans mx_ite
set_option maxRecDepth 20000 in
theorem i89_15 : ex_ X d 89 15 [.ref a, v1, v2, v3] [] h Q = ex_ X d 89 16 [.ref a, v1, v2, v3] [.ref a] h Q := ex_nx (show mx_at 89 15 = some (.aload_n 0, 1) by decide +kernel) rfl
set_option maxRecDepth 20000 in
theorem i89_16 : ex_ X d 89 16 [v0, v1, v2, v3] [w0] h Q = ex_ X d 89 17 [v0, v1, v2, v3] [.int 1, w0] h Q := R_iconst (show mx_at 89 16 = some (.iconst 1, 1) by decide +kernel) (by decide)
set_option maxRecDepth 20000 in
theorem i89_17 (hc : co_ h a = some 11) : ex_ X (d + 1) 89 17 [v0, v1, v2, v3] [.int x0, .ref a] h Q = ev_ X d 106 [.ref a, .int x0] h (fun r h' => ex_ X (d + 1) 89 20 [v0, v1, v2, v3] (r.toList ++ []) h' Q) := R_vir (show mx_at 89 17 = some (.invokevirtual 72, 3) by decide +kernel) (mx_clk ow89 cc11_72) (Nat.le_of_ble_eq_true rfl) rfl rfl hc rfl (Nat.le_of_ble_eq_true rfl) (Nat.le_of_ble_eq_true rfl) (by rw [ml106]; exact Nat.le_of_ble_eq_true rfl)
set_option maxRecDepth 20000 in
theorem i89_20 : ex_ X d 89 20 [v0, v1, v2, v3] [.int x] h Q = Q (some (.int x)) h := ex_ret (show mx_at 89 20 = some (.ireturn, 1) by decide +kernel) (mx_retI rt89)
set_option maxRecDepth 20000 in
theorem i89_21 : ex_ X d 89 21 [.ref a, v1, v2, v3] [] h Q = ex_ X d 89 22 [.ref a, v1, v2, v3] [.ref a] h Q := ex_nx (show mx_at 89 21 = some (.aload_n 0, 1) by decide +kernel) rfl
set_option maxRecDepth 20000 in
theorem i89_22 : ex_ X d 89 22 [v0, .int x, v2, v3] [w0] h Q = ex_ X d 89 23 [v0, .int x, v2, v3] [.int x, w0] h Q := ex_nx (show mx_at 89 22 = some (.iload_n 1, 1) by decide +kernel) rfl
set_option maxRecDepth 20000 in
theorem i89_23 : ex_ X d 89 23 [v0, v1, v2, v3] [w0, w1] h Q = ex_ X d 89 24 [v0, v1, v2, v3] [.int (-1), w0, w1] h Q := R_iconst (show mx_at 89 23 = some (.iconst (-1), 1) by decide +kernel) (by decide)
set_option maxRecDepth 20000 in
theorem i89_24 : ex_ X d 89 24 [v0, v1, .int x, v3] [w0, w1, w2] h Q = ex_ X d 89 25 [v0, v1, .int x, v3] [.int x, w0, w1, w2] h Q := ex_nx (show mx_at 89 24 = some (.iload_n 2, 1) by decide +kernel) rfl
set_option maxRecDepth 20000 in
theorem i89_25 (hc : co_ h a = some 11) : ex_ X (d + 1) 89 25 [v0, v1, v2, v3] [.int x2, .int x1, .int x0, .ref a] h Q = ev_ X d 120 [.ref a, .int x0, .int x1, .int x2] h (fun r h' => ex_ X (d + 1) 89 28 [v0, v1, v2, v3] (r.toList ++ []) h' Q) := R_vir (show mx_at 89 25 = some (.invokevirtual 227, 3) by decide +kernel) (mx_clk ow89 cc11_227) (Nat.le_of_ble_eq_true rfl) rfl rfl hc rfl (Nat.le_of_ble_eq_true rfl) (Nat.le_of_ble_eq_true rfl) (by rw [ml120]; exact Nat.le_of_ble_eq_true rfl)
set_option maxRecDepth 20000 in
theorem i89_28 : ex_ X d 89 28 [v0, v1, v2, v3] [.int x] h Q = (mx_nl v2 = true ∧ ex_ X d 89 29 [v0, v1, v2, .int x] [] h Q) := mx_t1 (R_st (ok := mx_isI) (n := 3) (w := 1) (show mx_at 89 28 = some (.istore_n 3, 1) by decide +kernel) (fun _ _ => rfl) (Nat.le_of_ble_eq_true rfl)) rfl
set_option maxRecDepth 20000 in
theorem i89_29 : ex_ X d 89 29 [v0, v1, v2, .int x] [] h Q = ex_ X d 89 30 [v0, v1, v2, .int x] [.int x] h Q := ex_nx (show mx_at 89 29 = some (.iload_n 3, 1) by decide +kernel) rfl
set_option maxRecDepth 20000 in
theorem i89_30 : ex_ X d 89 30 [.ref a, v1, v2, v3] [w0] h Q = ex_ X d 89 31 [.ref a, v1, v2, v3] [.ref a, w0] h Q := ex_nx (show mx_at 89 30 = some (.aload_n 0, 1) by decide +kernel) rfl
set_option maxRecDepth 20000 in
theorem i89_31 : ex_ X d 89 31 [v0, v1, .int x, v3] [w0, w1] h Q = ex_ X d 89 32 [v0, v1, .int x, v3] [.int x, w0, w1] h Q := ex_nx (show mx_at 89 31 = some (.iload_n 2, 1) by decide +kernel) rfl
set_option maxRecDepth 20000 in
theorem i89_32 (hc : co_ h a = some 11) : ex_ X (d + 1) 89 32 [v0, v1, v2, v3] [.int x0, .ref a, w0] h Q = ev_ X d 119 [.ref a, .int x0] h (fun r h' => ex_ X (d + 1) 89 35 [v0, v1, v2, v3] (r.toList ++ [w0]) h' Q) := R_vir (show mx_at 89 32 = some (.invokevirtual 215, 3) by decide +kernel) (mx_clk ow89 cc11_215) (Nat.le_of_ble_eq_true rfl) rfl rfl hc rfl (Nat.le_of_ble_eq_true rfl) (Nat.le_of_ble_eq_true rfl) (by rw [ml119]; exact Nat.le_of_ble_eq_true rfl)
set_option maxRecDepth 20000 in
theorem i89_35 : ex_ X d 89 35 [v0, v1, v2, v3] [.ref a, w0] h Q = (gk_ h a 9 [(3, 0)] = true ∧ ex_ X d 89 38 [v0, v1, v2, v3] [gv_ h a 9, w0] h Q) := R_getf (show mx_at 89 35 = some (.getfield 102, 3) by decide +kernel) (mx_fdo ow89 fd110102)
set_option maxRecDepth 20000 in
theorem i89_38 : ex_ X d 89 38 [v0, .int x, v2, v3] [w0, w1] h Q = ex_ X d 89 39 [v0, .int x, v2, v3] [.int x, w0, w1] h Q := ex_nx (show mx_at 89 38 = some (.iload_n 1, 1) by decide +kernel) rfl
set_option maxRecDepth 20000 in
theorem i89_39 : ex_ X d 89 39 [v0, v1, v2, v3] [.int i, .ref a, w0] h Q = (ik_ h a i = true ∧ ex_ X d 89 40 [v0, v1, v2, v3] [.int (ia_ h a i), w0] h Q) := R_iald (show mx_at 89 39 = some (.iaload, 1) by decide +kernel)
set_option maxRecDepth 20000 in
theorem i89_40 : ex_ X d 89 40 [v0, v1, v2, v3] [.int y, .int x] h Q = ex_ X d 89 41 [v0, v1, v2, v3] [.int (x - y)] h Q := ex_nx (show mx_at 89 40 = some (.isub, 1) by decide +kernel) rfl
set_option maxRecDepth 20000 in
theorem i89_41 : ex_ X d 89 41 [v0, v1, v2, v3] [.int x] h Q = Q (some (.int x)) h := ex_ret (show mx_at 89 41 = some (.ireturn, 1) by decide +kernel) (mx_retI rt89)
theorem i89_e : ev_ X d 89 [.ref a, .int x0, .int x1] h Q = ex_ X d 89 0 [.ref a, .int x0, .int x1, .double 0] [] h Q := by rw [ev_, ml89]; rfl
-- 90 X11_tenth
set_option maxRecDepth 20000 in
theorem i90_0 : ex_ X d 90 0 [v0, .int x, v2, v3] [] h Q = ex_ X d 90 1 [v0, .int x, v2, v3] [.int x] h Q := ex_nx (show mx_at 90 0 = some (.iload_n 1, 1) by decide +kernel) rfl
set_option maxRecDepth 20000 in
theorem i90_1 : ex_ X (d + 1) 90 1 [v0, v1, v2, v3] [.int x0] h Q = ev_ X d 112 [.int x0] h (fun r h' => ex_ X (d + 1) 90 4 [v0, v1, v2, v3] (r.toList ++ []) h' Q) := R_stat (show mx_at 90 1 = some (.invokestatic 212, 3) by decide +kernel) (mx_clk ow90 cc11_212) (Nat.le_of_ble_eq_true rfl) rfl rfl (Nat.le_of_ble_eq_true rfl) ml112 (Nat.le_of_ble_eq_true rfl)
set_option maxRecDepth 20000 in
theorem i90_4 : ex_ X d 90 4 [v0, v1, v2, v3] [.int x] h Q = if x = 0 then ex_ X d 90 18 [v0, v1, v2, v3] [] h Q else ex_ X d 90 7 [v0, v1, v2, v3] [] h Q := (R_br (show mx_at 90 4 = some (.ifCond .eq 14, 3) by decide +kernel) rfl rfl).trans mx_ite
set_option maxRecDepth 20000 in
theorem i90_7 : ex_ X d 90 7 [v0, v1, .int x, v3] [] h Q = ex_ X d 90 8 [v0, v1, .int x, v3] [.int x] h Q := ex_nx (show mx_at 90 7 = some (.iload_n 2, 1) by decide +kernel) rfl
set_option maxRecDepth 20000 in
theorem i90_8 : ex_ X d 90 8 [v0, v1, v2, v3] [w0] h Q = ex_ X d 90 9 [v0, v1, v2, v3] [.int 0, w0] h Q := R_iconst (show mx_at 90 8 = some (.iconst 0, 1) by decide +kernel) (by decide)
set_option maxRecDepth 20000 in
theorem i90_9 : ex_ X d 90 9 [v0, v1, v2, v3] [w0, w1] h Q = ex_ X d 90 12 [v0, v1, v2, v3] [.int 999, w0, w1] h Q := R_sipush (show mx_at 90 9 = some (.sipush 999, 3) by decide +kernel) (by decide)
set_option maxRecDepth 20000 in
theorem i90_12 : ex_ X (d + 1) 90 12 [v0, v1, v2, v3] [.int x2, .int x1, .int x0] h Q = ev_ X d 107 [.int x0, .int x1, .int x2] h (fun r h' => ex_ X (d + 1) 90 15 [v0, v1, v2, v3] (r.toList ++ []) h' Q) := R_stat (show mx_at 90 12 = some (.invokestatic 68, 3) by decide +kernel) (mx_clk ow90 cc11_68) (Nat.le_of_ble_eq_true rfl) rfl rfl (Nat.le_of_ble_eq_true rfl) ml107 (Nat.le_of_ble_eq_true rfl)
set_option maxRecDepth 20000 in
theorem i90_15 : ex_ X d 90 15 [v0, v1, v2, v3] [.int x] h Q = if ¬ x = 0 then ex_ X d 90 24 [v0, v1, v2, v3] [] h Q else ex_ X d 90 18 [v0, v1, v2, v3] [] h Q := (R_br (show mx_at 90 15 = some (.ifCond .ne 9, 3) by decide +kernel) rfl rfl).trans mx_ite
set_option maxRecDepth 20000 in
theorem i90_18 : ex_ X d 90 18 [.ref a, v1, v2, v3] [] h Q = ex_ X d 90 19 [.ref a, v1, v2, v3] [.ref a] h Q := ex_nx (show mx_at 90 18 = some (.aload_n 0, 1) by decide +kernel) rfl
set_option maxRecDepth 20000 in
theorem i90_19 : ex_ X d 90 19 [v0, v1, v2, v3] [w0] h Q = ex_ X d 90 20 [v0, v1, v2, v3] [.int 1, w0] h Q := R_iconst (show mx_at 90 19 = some (.iconst 1, 1) by decide +kernel) (by decide)
set_option maxRecDepth 20000 in
theorem i90_20 (hc : co_ h a = some 11) : ex_ X (d + 1) 90 20 [v0, v1, v2, v3] [.int x0, .ref a] h Q = ev_ X d 106 [.ref a, .int x0] h (fun r h' => ex_ X (d + 1) 90 23 [v0, v1, v2, v3] (r.toList ++ []) h' Q) := R_vir (show mx_at 90 20 = some (.invokevirtual 72, 3) by decide +kernel) (mx_clk ow90 cc11_72) (Nat.le_of_ble_eq_true rfl) rfl rfl hc rfl (Nat.le_of_ble_eq_true rfl) (Nat.le_of_ble_eq_true rfl) (by rw [ml106]; exact Nat.le_of_ble_eq_true rfl)
set_option maxRecDepth 20000 in
theorem i90_23 : ex_ X d 90 23 [v0, v1, v2, v3] [.int x] h Q = Q (some (.int x)) h := ex_ret (show mx_at 90 23 = some (.ireturn, 1) by decide +kernel) (mx_retI rt90)
set_option maxRecDepth 20000 in
theorem i90_24 : ex_ X d 90 24 [.ref a, v1, v2, v3] [] h Q = ex_ X d 90 25 [.ref a, v1, v2, v3] [.ref a] h Q := ex_nx (show mx_at 90 24 = some (.aload_n 0, 1) by decide +kernel) rfl
set_option maxRecDepth 20000 in
theorem i90_25 : ex_ X d 90 25 [v0, v1, v2, v3] [.ref a] h Q = (gk_ h a 12 [(11, 0)] = true ∧ ex_ X d 90 28 [v0, v1, v2, v3] [gv_ h a 12] h Q) := R_getf (show mx_at 90 25 = some (.getfield 54, 3) by decide +kernel) (mx_fdo ow90 fd110054)
set_option maxRecDepth 20000 in
theorem i90_28 : ex_ X d 90 28 [.ref a, v1, v2, v3] [w0] h Q = ex_ X d 90 29 [.ref a, v1, v2, v3] [.ref a, w0] h Q := ex_nx (show mx_at 90 28 = some (.aload_n 0, 1) by decide +kernel) rfl
set_option maxRecDepth 20000 in
theorem i90_29 : ex_ X d 90 29 [v0, v1, v2, v3] [.ref a, w0] h Q = (gk_ h a 0 [(11, 0)] = true ∧ ex_ X d 90 32 [v0, v1, v2, v3] [gv_ h a 0, w0] h Q) := R_getf (show mx_at 90 29 = some (.getfield 12, 3) by decide +kernel) (mx_fdo ow90 fd110012)
set_option maxRecDepth 20000 in
theorem i90_32 (hc : co_ h a = some 3) : ex_ X (d + 1) 90 32 [v0, v1, v2, v3] [.ref a0, .ref a] h Q = ev_ X d 11 [.ref a, .ref a0] h (fun r h' => ex_ X (d + 1) 90 35 [v0, v1, v2, v3] (r.toList ++ []) h' Q) := R_vir (show mx_at 90 32 = some (.invokevirtual 230, 3) by decide +kernel) (mx_clk ow90 cc11_230) (Nat.le_of_ble_eq_true rfl) rfl rfl hc rfl (Nat.le_of_ble_eq_true rfl) (Nat.le_of_ble_eq_true rfl) (by rw [ml11]; exact Nat.le_of_ble_eq_true rfl)
set_option maxRecDepth 20000 in
theorem i90_35 : ex_ X d 90 35 [.ref a, v1, v2, v3] [] h Q = ex_ X d 90 36 [.ref a, v1, v2, v3] [.ref a] h Q := ex_nx (show mx_at 90 35 = some (.aload_n 0, 1) by decide +kernel) rfl
set_option maxRecDepth 20000 in
theorem i90_36 : ex_ X d 90 36 [v0, v1, v2, v3] [.ref a] h Q = (gk_ h a 12 [(11, 0)] = true ∧ ex_ X d 90 39 [v0, v1, v2, v3] [gv_ h a 12] h Q) := R_getf (show mx_at 90 36 = some (.getfield 54, 3) by decide +kernel) (mx_fdo ow90 fd110054)
set_option maxRecDepth 20000 in
theorem i90_39 : ex_ X d 90 39 [v0, v1, .int x, v3] [w0] h Q = ex_ X d 90 40 [v0, v1, .int x, v3] [.int x, w0] h Q := ex_nx (show mx_at 90 39 = some (.iload_n 2, 1) by decide +kernel) rfl
set_option maxRecDepth 20000 in
theorem i90_40 : ex_ X d 90 40 [v0, v1, v2, v3] [w, .ref a] h Q = (pk_ 90 h a 2 w [(3, 0)] = true ∧ ex_ X d 90 43 [v0, v1, v2, v3] [] (pf_ h a 2 w) Q) := R_putf (show mx_at 90 40 = some (.putfield 173, 3) by decide +kernel) (mx_fdo ow90 fd110173)
set_option maxRecDepth 20000 in
theorem i90_43 : ex_ X d 90 43 [.ref a, v1, v2, v3] [] h Q = ex_ X d 90 44 [.ref a, v1, v2, v3] [.ref a] h Q := ex_nx (show mx_at 90 43 = some (.aload_n 0, 1) by decide +kernel) rfl
set_option maxRecDepth 20000 in
theorem i90_44 : ex_ X d 90 44 [v0, v1, v2, v3] [.ref a] h Q = (gk_ h a 12 [(11, 0)] = true ∧ ex_ X d 90 47 [v0, v1, v2, v3] [gv_ h a 12] h Q) := R_getf (show mx_at 90 44 = some (.getfield 54, 3) by decide +kernel) (mx_fdo ow90 fd110054)
set_option maxRecDepth 20000 in
theorem i90_47 : ex_ X d 90 47 [v0, .int x, v2, v3] [w0] h Q = ex_ X d 90 48 [v0, .int x, v2, v3] [.int x, w0] h Q := ex_nx (show mx_at 90 47 = some (.iload_n 1, 1) by decide +kernel) rfl
set_option maxRecDepth 20000 in
theorem i90_48 (hc : co_ h a = some 3) : ex_ X (d + 1) 90 48 [v0, v1, v2, v3] [.int x0, .ref a] h Q = ev_ X d 20 [.ref a, .int x0] h (fun r h' => ex_ X (d + 1) 90 51 [v0, v1, v2, v3] (r.toList ++ []) h' Q) := R_vir (show mx_at 90 48 = some (.invokevirtual 208, 3) by decide +kernel) (mx_clk ow90 cc11_208) (Nat.le_of_ble_eq_true rfl) rfl rfl hc rfl (Nat.le_of_ble_eq_true rfl) (Nat.le_of_ble_eq_true rfl) (by rw [ml20]; exact Nat.le_of_ble_eq_true rfl)
set_option maxRecDepth 20000 in
theorem i90_51 : ex_ X d 90 51 [.ref a, v1, v2, v3] [] h Q = ex_ X d 90 52 [.ref a, v1, v2, v3] [.ref a] h Q := ex_nx (show mx_at 90 51 = some (.aload_n 0, 1) by decide +kernel) rfl
set_option maxRecDepth 20000 in
theorem i90_52 : ex_ X d 90 52 [v0, v1, v2, v3] [.ref a] h Q = (gk_ h a 12 [(11, 0)] = true ∧ ex_ X d 90 55 [v0, v1, v2, v3] [gv_ h a 12] h Q) := R_getf (show mx_at 90 52 = some (.getfield 54, 3) by decide +kernel) (mx_fdo ow90 fd110054)
set_option maxRecDepth 20000 in
theorem i90_55 (hc : co_ h a = some 3) : ex_ X (d + 1) 90 55 [v0, v1, v2, v3] [.ref a] h Q = ev_ X d 25 [.ref a] h (fun r h' => ex_ X (d + 1) 90 58 [v0, v1, v2, v3] (r.toList ++ []) h' Q) := R_vir (show mx_at 90 55 = some (.invokevirtual 219, 3) by decide +kernel) (mx_clk ow90 cc11_219) (Nat.le_of_ble_eq_true rfl) rfl rfl hc rfl (Nat.le_of_ble_eq_true rfl) (Nat.le_of_ble_eq_true rfl) (by rw [ml25]; exact Nat.le_of_ble_eq_true rfl)
set_option maxRecDepth 20000 in
theorem i90_58 : ex_ X d 90 58 [v0, v1, v2, v3] [.int x] h Q = (mx_nl v2 = true ∧ ex_ X d 90 59 [v0, v1, v2, .int x] [] h Q) := mx_t1 (R_st (ok := mx_isI) (n := 3) (w := 1) (show mx_at 90 58 = some (.istore_n 3, 1) by decide +kernel) (fun _ _ => rfl) (Nat.le_of_ble_eq_true rfl)) rfl
set_option maxRecDepth 20000 in
theorem i90_59 : ex_ X d 90 59 [v0, v1, v2, .int x] [] h Q = ex_ X d 90 60 [v0, v1, v2, .int x] [.int x] h Q := ex_nx (show mx_at 90 59 = some (.iload_n 3, 1) by decide +kernel) rfl
set_option maxRecDepth 20000 in
theorem i90_60 : ex_ X d 90 60 [.ref a, v1, v2, v3] [w0] h Q = ex_ X d 90 61 [.ref a, v1, v2, v3] [.ref a, w0] h Q := ex_nx (show mx_at 90 60 = some (.aload_n 0, 1) by decide +kernel) rfl
set_option maxRecDepth 20000 in
theorem i90_61 : ex_ X d 90 61 [v0, .int x, v2, v3] [w0, w1] h Q = ex_ X d 90 62 [v0, .int x, v2, v3] [.int x, w0, w1] h Q := ex_nx (show mx_at 90 61 = some (.iload_n 1, 1) by decide +kernel) rfl
set_option maxRecDepth 20000 in
theorem i90_62 (hc : co_ h a = some 11) : ex_ X (d + 1) 90 62 [v0, v1, v2, v3] [.int x0, .ref a, w0] h Q = ev_ X d 119 [.ref a, .int x0] h (fun r h' => ex_ X (d + 1) 90 65 [v0, v1, v2, v3] (r.toList ++ [w0]) h' Q) := R_vir (show mx_at 90 62 = some (.invokevirtual 215, 3) by decide +kernel) (mx_clk ow90 cc11_215) (Nat.le_of_ble_eq_true rfl) rfl rfl hc rfl (Nat.le_of_ble_eq_true rfl) (Nat.le_of_ble_eq_true rfl) (by rw [ml119]; exact Nat.le_of_ble_eq_true rfl)
set_option maxRecDepth 20000 in
theorem i90_65 (hc : co_ h a = some 3) : ex_ X (d + 1) 90 65 [v0, v1, v2, v3] [.ref a, w0] h Q = ev_ X d 25 [.ref a] h (fun r h' => ex_ X (d + 1) 90 68 [v0, v1, v2, v3] (r.toList ++ [w0]) h' Q) := R_vir (show mx_at 90 65 = some (.invokevirtual 219, 3) by decide +kernel) (mx_clk ow90 cc11_219) (Nat.le_of_ble_eq_true rfl) rfl rfl hc rfl (Nat.le_of_ble_eq_true rfl) (Nat.le_of_ble_eq_true rfl) (by rw [ml25]; exact Nat.le_of_ble_eq_true rfl)
set_option maxRecDepth 20000 in
theorem i90_68 : ex_ X d 90 68 [v0, v1, v2, v3] [.int y, .int x] h Q = ex_ X d 90 69 [v0, v1, v2, v3] [.int (x - y)] h Q := ex_nx (show mx_at 90 68 = some (.isub, 1) by decide +kernel) rfl
set_option maxRecDepth 20000 in
theorem i90_69 : ex_ X d 90 69 [v0, v1, v2, v3] [.int x] h Q = Q (some (.int x)) h := ex_ret (show mx_at 90 69 = some (.ireturn, 1) by decide +kernel) (mx_retI rt90)
theorem i90_e : ev_ X d 90 [.ref a, .int x0, .int x1] h Q = ex_ X d 90 0 [.ref a, .int x0, .int x1, .double 0] [] h Q := by rw [ev_, ml90]; rfl
-- 91 X11_gains
set_option maxRecDepth 20000 in
theorem i91_0 : ex_ X d 91 0 [v0, .int x, v2, v3, v4, v5] [] h Q = ex_ X d 91 1 [v0, .int x, v2, v3, v4, v5] [.int x] h Q := ex_nx (show mx_at 91 0 = some (.iload_n 1, 1) by decide +kernel) rfl
set_option maxRecDepth 20000 in
theorem i91_1 : ex_ X (d + 1) 91 1 [v0, v1, v2, v3, v4, v5] [.int x0] h Q = ev_ X d 112 [.int x0] h (fun r h' => ex_ X (d + 1) 91 4 [v0, v1, v2, v3, v4, v5] (r.toList ++ []) h' Q) := R_stat (show mx_at 91 1 = some (.invokestatic 212, 3) by decide +kernel) (mx_clk ow91 cc11_212) (Nat.le_of_ble_eq_true rfl) rfl rfl (Nat.le_of_ble_eq_true rfl) ml112 (Nat.le_of_ble_eq_true rfl)
set_option maxRecDepth 20000 in
theorem i91_4 : ex_ X d 91 4 [v0, v1, v2, v3, v4, v5] [.int x] h Q = if ¬ x = 0 then ex_ X d 91 13 [v0, v1, v2, v3, v4, v5] [] h Q else ex_ X d 91 7 [v0, v1, v2, v3, v4, v5] [] h Q := (R_br (show mx_at 91 4 = some (.ifCond .ne 9, 3) by decide +kernel) rfl rfl).trans mx_ite
set_option maxRecDepth 20000 in
theorem i91_7 : ex_ X d 91 7 [.ref a, v1, v2, v3, v4, v5] [] h Q = ex_ X d 91 8 [.ref a, v1, v2, v3, v4, v5] [.ref a] h Q := ex_nx (show mx_at 91 7 = some (.aload_n 0, 1) by decide +kernel) rfl
set_option maxRecDepth 20000 in
theorem i91_8 : ex_ X d 91 8 [v0, v1, v2, v3, v4, v5] [w0] h Q = ex_ X d 91 9 [v0, v1, v2, v3, v4, v5] [.int 1, w0] h Q := R_iconst (show mx_at 91 8 = some (.iconst 1, 1) by decide +kernel) (by decide)
set_option maxRecDepth 20000 in
theorem i91_9 (hc : co_ h a = some 11) : ex_ X (d + 1) 91 9 [v0, v1, v2, v3, v4, v5] [.int x0, .ref a] h Q = ev_ X d 106 [.ref a, .int x0] h (fun r h' => ex_ X (d + 1) 91 12 [v0, v1, v2, v3, v4, v5] (r.toList ++ []) h' Q) := R_vir (show mx_at 91 9 = some (.invokevirtual 72, 3) by decide +kernel) (mx_clk ow91 cc11_72) (Nat.le_of_ble_eq_true rfl) rfl rfl hc rfl (Nat.le_of_ble_eq_true rfl) (Nat.le_of_ble_eq_true rfl) (by rw [ml106]; exact Nat.le_of_ble_eq_true rfl)
set_option maxRecDepth 20000 in
theorem i91_12 : ex_ X d 91 12 [v0, v1, v2, v3, v4, v5] [.int x] h Q = Q (some (.int x)) h := ex_ret (show mx_at 91 12 = some (.ireturn, 1) by decide +kernel) (mx_retI rt91)
set_option maxRecDepth 20000 in
theorem i91_13 : ex_ X d 91 13 [.ref a, v1, v2, v3, v4, v5] [] h Q = ex_ X d 91 14 [.ref a, v1, v2, v3, v4, v5] [.ref a] h Q := ex_nx (show mx_at 91 13 = some (.aload_n 0, 1) by decide +kernel) rfl
set_option maxRecDepth 20000 in
theorem i91_14 : ex_ X d 91 14 [v0, v1, v2, v3, v4, v5] [.ref a] h Q = (gk_ h a 0 [(11, 0)] = true ∧ ex_ X d 91 17 [v0, v1, v2, v3, v4, v5] [gv_ h a 0] h Q) := R_getf (show mx_at 91 14 = some (.getfield 12, 3) by decide +kernel) (mx_fdo ow91 fd110012)
set_option maxRecDepth 20000 in
theorem i91_17 : ex_ X d 91 17 [v0, v1, v2, v3, v4, v5] [.ref a] h Q = (gk_ h a 7 [(3, 0)] = true ∧ ex_ X d 91 20 [v0, v1, v2, v3, v4, v5] [gv_ h a 7] h Q) := R_getf (show mx_at 91 17 = some (.getfield 76, 3) by decide +kernel) (mx_fdo ow91 fd110076)
set_option maxRecDepth 20000 in
theorem i91_20 : ex_ X d 91 20 [v0, v1, v2, v3, v4, v5] [.int x] h Q = if ¬ x = 0 then ex_ X d 91 29 [v0, v1, v2, v3, v4, v5] [] h Q else ex_ X d 91 23 [v0, v1, v2, v3, v4, v5] [] h Q := (R_br (show mx_at 91 20 = some (.ifCond .ne 9, 3) by decide +kernel) rfl rfl).trans mx_ite
set_option maxRecDepth 20000 in
theorem i91_23 : ex_ X d 91 23 [.ref a, v1, v2, v3, v4, v5] [] h Q = ex_ X d 91 24 [.ref a, v1, v2, v3, v4, v5] [.ref a] h Q := ex_nx (show mx_at 91 23 = some (.aload_n 0, 1) by decide +kernel) rfl
set_option maxRecDepth 20000 in
theorem i91_24 : ex_ X d 91 24 [v0, v1, v2, v3, v4, v5] [w0] h Q = ex_ X d 91 25 [v0, v1, v2, v3, v4, v5] [.int 2, w0] h Q := R_iconst (show mx_at 91 24 = some (.iconst 2, 1) by decide +kernel) (by decide)
set_option maxRecDepth 20000 in
theorem i91_25 (hc : co_ h a = some 11) : ex_ X (d + 1) 91 25 [v0, v1, v2, v3, v4, v5] [.int x0, .ref a] h Q = ev_ X d 106 [.ref a, .int x0] h (fun r h' => ex_ X (d + 1) 91 28 [v0, v1, v2, v3, v4, v5] (r.toList ++ []) h' Q) := R_vir (show mx_at 91 25 = some (.invokevirtual 72, 3) by decide +kernel) (mx_clk ow91 cc11_72) (Nat.le_of_ble_eq_true rfl) rfl rfl hc rfl (Nat.le_of_ble_eq_true rfl) (Nat.le_of_ble_eq_true rfl) (by rw [ml106]; exact Nat.le_of_ble_eq_true rfl)
set_option maxRecDepth 20000 in
theorem i91_28 : ex_ X d 91 28 [v0, v1, v2, v3, v4, v5] [.int x] h Q = Q (some (.int x)) h := ex_ret (show mx_at 91 28 = some (.ireturn, 1) by decide +kernel) (mx_retI rt91)
set_option maxRecDepth 20000 in
theorem i91_29 : ex_ X d 91 29 [.ref a, v1, v2, v3, v4, v5] [] h Q = ex_ X d 91 30 [.ref a, v1, v2, v3, v4, v5] [.ref a] h Q := ex_nx (show mx_at 91 29 = some (.aload_n 0, 1) by decide +kernel) rfl
set_option maxRecDepth 20000 in
theorem i91_30 : ex_ X d 91 30 [v0, v1, v2, v3, v4, v5] [.ref a] h Q = (gk_ h a 13 [(11, 0)] = true ∧ ex_ X d 91 33 [v0, v1, v2, v3, v4, v5] [gv_ h a 13] h Q) := R_getf (show mx_at 91 30 = some (.getfield 57, 3) by decide +kernel) (mx_fdo ow91 fd110057)
set_option maxRecDepth 20000 in
theorem i91_33 : ex_ X d 91 33 [v0, v1, v2, v3, v4, v5] [w0] h Q = ex_ X d 91 34 [v0, v1, v2, v3, v4, v5] [.int 0, w0] h Q := R_iconst (show mx_at 91 33 = some (.iconst 0, 1) by decide +kernel) (by decide)
set_option maxRecDepth 20000 in
theorem i91_34 : ex_ X d 91 34 [v0, v1, v2, v3, v4, v5] [.int i, .ref a] h Q = (rk_ h a i = true ∧ ex_ X d 91 35 [v0, v1, v2, v3, v4, v5] [mx_vr (ra_ h a i)] h Q) := R_aald (show mx_at 91 34 = some (.aaload, 1) by decide +kernel)
set_option maxRecDepth 20000 in
theorem i91_35 : ex_ X d 91 35 [v0, v1, v2, v3, v4, v5] [.ref a] h Q = (mx_nl v1 = true ∧ ex_ X d 91 36 [v0, v1, .ref a, v3, v4, v5] [] h Q) := mx_t1 (R_st (ok := mx_isA) (n := 2) (w := 1) (show mx_at 91 35 = some (.astore_n 2, 1) by decide +kernel) (fun _ _ => rfl) (Nat.le_of_ble_eq_true rfl)) rfl
set_option maxRecDepth 20000 in
theorem i91_36 : ex_ X d 91 36 [v0, v1, .ref a, v3, v4, v5] [] h Q = ex_ X d 91 37 [v0, v1, .ref a, v3, v4, v5] [.ref a] h Q := ex_nx (show mx_at 91 36 = some (.aload_n 2, 1) by decide +kernel) rfl
set_option maxRecDepth 20000 in
theorem i91_37 : ex_ X d 91 37 [.ref a, v1, v2, v3, v4, v5] [w0] h Q = ex_ X d 91 38 [.ref a, v1, v2, v3, v4, v5] [.ref a, w0] h Q := ex_nx (show mx_at 91 37 = some (.aload_n 0, 1) by decide +kernel) rfl
set_option maxRecDepth 20000 in
theorem i91_38 : ex_ X d 91 38 [v0, v1, v2, v3, v4, v5] [.ref a, w0] h Q = (gk_ h a 0 [(11, 0)] = true ∧ ex_ X d 91 41 [v0, v1, v2, v3, v4, v5] [gv_ h a 0, w0] h Q) := R_getf (show mx_at 91 38 = some (.getfield 12, 3) by decide +kernel) (mx_fdo ow91 fd110012)
set_option maxRecDepth 20000 in
theorem i91_41 (hc : co_ h a = some 3) : ex_ X (d + 1) 91 41 [v0, v1, v2, v3, v4, v5] [.ref a0, .ref a] h Q = ev_ X d 11 [.ref a, .ref a0] h (fun r h' => ex_ X (d + 1) 91 44 [v0, v1, v2, v3, v4, v5] (r.toList ++ []) h' Q) := R_vir (show mx_at 91 41 = some (.invokevirtual 230, 3) by decide +kernel) (mx_clk ow91 cc11_230) (Nat.le_of_ble_eq_true rfl) rfl rfl hc rfl (Nat.le_of_ble_eq_true rfl) (Nat.le_of_ble_eq_true rfl) (by rw [ml11]; exact Nat.le_of_ble_eq_true rfl)
set_option maxRecDepth 20000 in
theorem i91_44 : ex_ X d 91 44 [v0, v1, .ref a, v3, v4, v5] [] h Q = ex_ X d 91 45 [v0, v1, .ref a, v3, v4, v5] [.ref a] h Q := ex_nx (show mx_at 91 44 = some (.aload_n 2, 1) by decide +kernel) rfl
set_option maxRecDepth 20000 in
theorem i91_45 : ex_ X d 91 45 [v0, v1, v2, v3, v4, v5] [w0] h Q = ex_ X d 91 46 [v0, v1, v2, v3, v4, v5] [.int 0, w0] h Q := R_iconst (show mx_at 91 45 = some (.iconst 0, 1) by decide +kernel) (by decide)
set_option maxRecDepth 20000 in
theorem i91_46 : ex_ X d 91 46 [v0, v1, v2, v3, v4, v5] [w, .ref a] h Q = (pk_ 91 h a 3 w [(3, 0)] = true ∧ ex_ X d 91 49 [v0, v1, v2, v3, v4, v5] [] (pf_ h a 3 w) Q) := R_putf (show mx_at 91 46 = some (.putfield 234, 3) by decide +kernel) (mx_fdo ow91 fd110234)
set_option maxRecDepth 20000 in
theorem i91_49 : ex_ X d 91 49 [v0, v1, .ref a, v3, v4, v5] [] h Q = ex_ X d 91 50 [v0, v1, .ref a, v3, v4, v5] [.ref a] h Q := ex_nx (show mx_at 91 49 = some (.aload_n 2, 1) by decide +kernel) rfl
set_option maxRecDepth 20000 in
theorem i91_50 : ex_ X d 91 50 [v0, .int x, v2, v3, v4, v5] [w0] h Q = ex_ X d 91 51 [v0, .int x, v2, v3, v4, v5] [.int x, w0] h Q := ex_nx (show mx_at 91 50 = some (.iload_n 1, 1) by decide +kernel) rfl
set_option maxRecDepth 20000 in
theorem i91_51 (hc : co_ h a = some 3) : ex_ X (d + 1) 91 51 [v0, v1, v2, v3, v4, v5] [.int x0, .ref a] h Q = ev_ X d 20 [.ref a, .int x0] h (fun r h' => ex_ X (d + 1) 91 54 [v0, v1, v2, v3, v4, v5] (r.toList ++ []) h' Q) := R_vir (show mx_at 91 51 = some (.invokevirtual 208, 3) by decide +kernel) (mx_clk ow91 cc11_208) (Nat.le_of_ble_eq_true rfl) rfl rfl hc rfl (Nat.le_of_ble_eq_true rfl) (Nat.le_of_ble_eq_true rfl) (by rw [ml20]; exact Nat.le_of_ble_eq_true rfl)
set_option maxRecDepth 20000 in
theorem i91_54 : ex_ X d 91 54 [.ref a, v1, v2, v3, v4, v5] [] h Q = ex_ X d 91 55 [.ref a, v1, v2, v3, v4, v5] [.ref a] h Q := ex_nx (show mx_at 91 54 = some (.aload_n 0, 1) by decide +kernel) rfl
set_option maxRecDepth 20000 in
theorem i91_55 : ex_ X d 91 55 [v0, .int x, v2, v3, v4, v5] [w0] h Q = ex_ X d 91 56 [v0, .int x, v2, v3, v4, v5] [.int x, w0] h Q := ex_nx (show mx_at 91 55 = some (.iload_n 1, 1) by decide +kernel) rfl
set_option maxRecDepth 20000 in
theorem i91_56 (hc : co_ h a = some 11) : ex_ X (d + 1) 91 56 [v0, v1, v2, v3, v4, v5] [.int x0, .ref a] h Q = ev_ X d 119 [.ref a, .int x0] h (fun r h' => ex_ X (d + 1) 91 59 [v0, v1, v2, v3, v4, v5] (r.toList ++ []) h' Q) := R_vir (show mx_at 91 56 = some (.invokevirtual 215, 3) by decide +kernel) (mx_clk ow91 cc11_215) (Nat.le_of_ble_eq_true rfl) rfl rfl hc rfl (Nat.le_of_ble_eq_true rfl) (Nat.le_of_ble_eq_true rfl) (by rw [ml119]; exact Nat.le_of_ble_eq_true rfl)
set_option maxRecDepth 20000 in
theorem i91_59 : ex_ X d 91 59 [v0, v1, v2, v3, v4, v5] [.ref a] h Q = (mx_nl v2 = true ∧ ex_ X d 91 60 [v0, v1, v2, .ref a, v4, v5] [] h Q) := mx_t1 (R_st (ok := mx_isA) (n := 3) (w := 1) (show mx_at 91 59 = some (.astore_n 3, 1) by decide +kernel) (fun _ _ => rfl) (Nat.le_of_ble_eq_true rfl)) rfl
set_option maxRecDepth 20000 in
theorem i91_60 : ex_ X d 91 60 [v0, v1, v2, v3, v4, v5] [] h Q = ex_ X d 91 61 [v0, v1, v2, v3, v4, v5] [.int 0] h Q := R_iconst (show mx_at 91 60 = some (.iconst 0, 1) by decide +kernel) (by decide)
set_option maxRecDepth 20000 in
theorem i91_61 : ex_ X d 91 61 [v0, v1, v2, v3, v4, v5] [.int x] h Q = (mx_nl v3 = true ∧ ex_ X d 91 63 [v0, v1, v2, v3, .int x, v5] [] h Q) := mx_t1 (R_st (ok := mx_isI) (n := 4) (w := 2) (show mx_at 91 61 = some (.istore 4, 2) by decide +kernel) (fun _ _ => rfl) (Nat.le_of_ble_eq_true rfl)) rfl
set_option maxRecDepth 20000 in
theorem i91_63 : ex_ X d 91 63 [v0, v1, v2, v3, v4, v5] [] h Q = ex_ X d 91 64 [v0, v1, v2, v3, v4, v5] [.int 1] h Q := R_iconst (show mx_at 91 63 = some (.iconst 1, 1) by decide +kernel) (by decide)
set_option maxRecDepth 20000 in
theorem i91_64 : ex_ X d 91 64 [v0, v1, v2, v3, v4, v5] [.int x] h Q = (mx_nl v4 = true ∧ ex_ X d 91 66 [v0, v1, v2, v3, v4, .int x] [] h Q) := mx_t1 (R_st (ok := mx_isI) (n := 5) (w := 2) (show mx_at 91 64 = some (.istore 5, 2) by decide +kernel) (fun _ _ => rfl) (Nat.le_of_ble_eq_true rfl)) rfl
set_option maxRecDepth 20000 in
theorem i91_66 : ex_ X d 91 66 [v0, v1, v2, v3, v4, .int x] [] h Q = ex_ X d 91 68 [v0, v1, v2, v3, v4, .int x] [.int x] h Q := ex_nx (show mx_at 91 66 = some (.iload 5, 2) by decide +kernel) rfl
set_option maxRecDepth 20000 in
theorem i91_68 : ex_ X d 91 68 [.ref a, v1, v2, v3, v4, v5] [w0] h Q = ex_ X d 91 69 [.ref a, v1, v2, v3, v4, v5] [.ref a, w0] h Q := ex_nx (show mx_at 91 68 = some (.aload_n 0, 1) by decide +kernel) rfl
set_option maxRecDepth 20000 in
theorem i91_69 : ex_ X d 91 69 [v0, v1, v2, v3, v4, v5] [.ref a, w0] h Q = (gk_ h a 0 [(11, 0)] = true ∧ ex_ X d 91 72 [v0, v1, v2, v3, v4, v5] [gv_ h a 0, w0] h Q) := R_getf (show mx_at 91 69 = some (.getfield 12, 3) by decide +kernel) (mx_fdo ow91 fd110012)
set_option maxRecDepth 20000 in
theorem i91_72 : ex_ X d 91 72 [v0, v1, v2, v3, v4, v5] [.ref a, w0] h Q = (gk_ h a 7 [(3, 0)] = true ∧ ex_ X d 91 75 [v0, v1, v2, v3, v4, v5] [gv_ h a 7, w0] h Q) := R_getf (show mx_at 91 72 = some (.getfield 76, 3) by decide +kernel) (mx_fdo ow91 fd110076)
set_option maxRecDepth 20000 in
theorem i91_75 : ex_ X d 91 75 [v0, v1, v2, v3, v4, v5] [.int y, .int x] h Q = if y ≤ x then ex_ X d 91 121 [v0, v1, v2, v3, v4, v5] [] h Q else ex_ X d 91 78 [v0, v1, v2, v3, v4, v5] [] h Q := (R_br (show mx_at 91 75 = some (.if_icmp .ge 46, 3) by decide +kernel) rfl rfl).trans mx_ite
set_option maxRecDepth 20000 in
theorem i91_78 : ex_ X d 91 78 [v0, v1, .ref a, v3, v4, v5] [] h Q = ex_ X d 91 79 [v0, v1, .ref a, v3, v4, v5] [.ref a] h Q := ex_nx (show mx_at 91 78 = some (.aload_n 2, 1) by decide +kernel) rfl
set_option maxRecDepth 20000 in
theorem i91_79 : ex_ X d 91 79 [v0, v1, v2, v3, v4, v5] [.ref a] h Q = (gk_ h a 9 [(3, 0)] = true ∧ ex_ X d 91 82 [v0, v1, v2, v3, v4, v5] [gv_ h a 9] h Q) := R_getf (show mx_at 91 79 = some (.getfield 102, 3) by decide +kernel) (mx_fdo ow91 fd110102)
set_option maxRecDepth 20000 in
theorem i91_82 : ex_ X d 91 82 [v0, v1, v2, v3, v4, .int x] [w0] h Q = ex_ X d 91 84 [v0, v1, v2, v3, v4, .int x] [.int x, w0] h Q := ex_nx (show mx_at 91 82 = some (.iload 5, 2) by decide +kernel) rfl
set_option maxRecDepth 20000 in
theorem i91_84 : ex_ X d 91 84 [v0, v1, v2, v3, v4, v5] [.int i, .ref a] h Q = (ik_ h a i = true ∧ ex_ X d 91 85 [v0, v1, v2, v3, v4, v5] [.int (ia_ h a i)] h Q) := R_iald (show mx_at 91 84 = some (.iaload, 1) by decide +kernel)
set_option maxRecDepth 20000 in
theorem i91_85 : ex_ X d 91 85 [v0, v1, v2, .ref a, v4, v5] [w0] h Q = ex_ X d 91 86 [v0, v1, v2, .ref a, v4, v5] [.ref a, w0] h Q := ex_nx (show mx_at 91 85 = some (.aload_n 3, 1) by decide +kernel) rfl
set_option maxRecDepth 20000 in
theorem i91_86 : ex_ X d 91 86 [v0, v1, v2, v3, v4, v5] [.ref a, w0] h Q = (gk_ h a 9 [(3, 0)] = true ∧ ex_ X d 91 89 [v0, v1, v2, v3, v4, v5] [gv_ h a 9, w0] h Q) := R_getf (show mx_at 91 86 = some (.getfield 102, 3) by decide +kernel) (mx_fdo ow91 fd110102)
set_option maxRecDepth 20000 in
theorem i91_89 : ex_ X d 91 89 [v0, v1, v2, v3, v4, .int x] [w0, w1] h Q = ex_ X d 91 91 [v0, v1, v2, v3, v4, .int x] [.int x, w0, w1] h Q := ex_nx (show mx_at 91 89 = some (.iload 5, 2) by decide +kernel) rfl
set_option maxRecDepth 20000 in
theorem i91_91 : ex_ X d 91 91 [v0, v1, v2, v3, v4, v5] [.int i, .ref a, w0] h Q = (ik_ h a i = true ∧ ex_ X d 91 92 [v0, v1, v2, v3, v4, v5] [.int (ia_ h a i), w0] h Q) := R_iald (show mx_at 91 91 = some (.iaload, 1) by decide +kernel)
set_option maxRecDepth 20000 in
theorem i91_92 : ex_ X d 91 92 [v0, v1, v2, v3, v4, v5] [.int y, .int x] h Q = ex_ X d 91 93 [v0, v1, v2, v3, v4, v5] [.int (x - y)] h Q := ex_nx (show mx_at 91 92 = some (.isub, 1) by decide +kernel) rfl
set_option maxRecDepth 20000 in
theorem i91_93 : ex_ X d 91 93 [v0, v1, .ref a, v3, v4, v5] [w0] h Q = ex_ X d 91 94 [v0, v1, .ref a, v3, v4, v5] [.ref a, w0] h Q := ex_nx (show mx_at 91 93 = some (.aload_n 2, 1) by decide +kernel) rfl
set_option maxRecDepth 20000 in
theorem i91_94 : ex_ X d 91 94 [v0, v1, v2, v3, v4, v5] [.ref a, w0] h Q = (gk_ h a 9 [(3, 0)] = true ∧ ex_ X d 91 97 [v0, v1, v2, v3, v4, v5] [gv_ h a 9, w0] h Q) := R_getf (show mx_at 91 94 = some (.getfield 102, 3) by decide +kernel) (mx_fdo ow91 fd110102)
set_option maxRecDepth 20000 in
theorem i91_97 : ex_ X d 91 97 [v0, v1, v2, v3, .int x, v5] [w0, w1] h Q = ex_ X d 91 99 [v0, v1, v2, v3, .int x, v5] [.int x, w0, w1] h Q := ex_nx (show mx_at 91 97 = some (.iload 4, 2) by decide +kernel) rfl
set_option maxRecDepth 20000 in
theorem i91_99 : ex_ X d 91 99 [v0, v1, v2, v3, v4, v5] [.int i, .ref a, w0] h Q = (ik_ h a i = true ∧ ex_ X d 91 100 [v0, v1, v2, v3, v4, v5] [.int (ia_ h a i), w0] h Q) := R_iald (show mx_at 91 99 = some (.iaload, 1) by decide +kernel)
set_option maxRecDepth 20000 in
theorem i91_100 : ex_ X d 91 100 [v0, v1, v2, .ref a, v4, v5] [w0, w1] h Q = ex_ X d 91 101 [v0, v1, v2, .ref a, v4, v5] [.ref a, w0, w1] h Q := ex_nx (show mx_at 91 100 = some (.aload_n 3, 1) by decide +kernel) rfl
set_option maxRecDepth 20000 in
theorem i91_101 : ex_ X d 91 101 [v0, v1, v2, v3, v4, v5] [.ref a, w0, w1] h Q = (gk_ h a 9 [(3, 0)] = true ∧ ex_ X d 91 104 [v0, v1, v2, v3, v4, v5] [gv_ h a 9, w0, w1] h Q) := R_getf (show mx_at 91 101 = some (.getfield 102, 3) by decide +kernel) (mx_fdo ow91 fd110102)
set_option maxRecDepth 20000 in
theorem i91_104 : ex_ X d 91 104 [v0, v1, v2, v3, .int x, v5] [w0, w1, w2] h Q = ex_ X d 91 106 [v0, v1, v2, v3, .int x, v5] [.int x, w0, w1, w2] h Q := ex_nx (show mx_at 91 104 = some (.iload 4, 2) by decide +kernel) rfl
set_option maxRecDepth 20000 in
theorem i91_106 : ex_ X d 91 106 [v0, v1, v2, v3, v4, v5] [.int i, .ref a, w0, w1] h Q = (ik_ h a i = true ∧ ex_ X d 91 107 [v0, v1, v2, v3, v4, v5] [.int (ia_ h a i), w0, w1] h Q) := R_iald (show mx_at 91 106 = some (.iaload, 1) by decide +kernel)
set_option maxRecDepth 20000 in
theorem i91_107 : ex_ X d 91 107 [v0, v1, v2, v3, v4, v5] [.int y, .int x, w0] h Q = ex_ X d 91 108 [v0, v1, v2, v3, v4, v5] [.int (x - y), w0] h Q := ex_nx (show mx_at 91 107 = some (.isub, 1) by decide +kernel) rfl
set_option maxRecDepth 20000 in
theorem i91_108 : ex_ X d 91 108 [v0, v1, v2, v3, v4, v5] [.int y, .int x] h Q = if x ≤ y then ex_ X d 91 115 [v0, v1, v2, v3, v4, v5] [] h Q else ex_ X d 91 111 [v0, v1, v2, v3, v4, v5] [] h Q := (R_br (show mx_at 91 108 = some (.if_icmp .le 7, 3) by decide +kernel) rfl rfl).trans mx_ite
set_option maxRecDepth 20000 in
theorem i91_111 : ex_ X d 91 111 [v0, v1, v2, v3, v4, .int x] [] h Q = ex_ X d 91 113 [v0, v1, v2, v3, v4, .int x] [.int x] h Q := ex_nx (show mx_at 91 111 = some (.iload 5, 2) by decide +kernel) rfl
set_option maxRecDepth 20000 in
theorem i91_113 : ex_ X d 91 113 [v0, v1, v2, v3, v4, v5] [.int x] h Q = (mx_nl v3 = true ∧ ex_ X d 91 115 [v0, v1, v2, v3, .int x, v5] [] h Q) := mx_t1 (R_st (ok := mx_isI) (n := 4) (w := 2) (show mx_at 91 113 = some (.istore 4, 2) by decide +kernel) (fun _ _ => rfl) (Nat.le_of_ble_eq_true rfl)) rfl
set_option maxRecDepth 20000 in
theorem i91_115 : ex_ X d 91 115 [v0, v1, v2, v3, v4, .int x] [] h Q = (mx_nl v4 = true ∧ ex_ X d 91 118 [v0, v1, v2, v3, v4, .int (x + 1)] [] h Q) := R_iinc (n := 5) (c := 1) (show mx_at 91 115 = some (.iinc 5 1, 3) by decide +kernel) rfl
set_option maxRecDepth 20000 in
theorem i91_118 : ex_ X d 91 118 [v0, v1, v2, v3, v4, v5] [] h Q = ex_ X d 91 66 [v0, v1, v2, v3, v4, v5] [] h Q := R_to (show mx_at 91 118 = some (.goto (-52), 3) by decide +kernel) rfl rfl
set_option maxRecDepth 20000 in
theorem i91_121 : ex_ X d 91 121 [v0, v1, v2, v3, .int x, v5] [] h Q = ex_ X d 91 123 [v0, v1, v2, v3, .int x, v5] [.int x] h Q := ex_nx (show mx_at 91 121 = some (.iload 4, 2) by decide +kernel) rfl
set_option maxRecDepth 20000 in
theorem i91_123 : ex_ X d 91 123 [v0, v1, v2, v3, v4, v5] [.int x] h Q = Q (some (.int x)) h := ex_ret (show mx_at 91 123 = some (.ireturn, 1) by decide +kernel) (mx_retI rt91)
theorem i91_e : ev_ X d 91 [.ref a, .int x0] h Q = ex_ X d 91 0 [.ref a, .int x0, .double 0, .double 0, .double 0, .double 0] [] h Q := by rw [ev_, ml91]; rfl
-- 92 X11_down
set_option maxRecDepth 20000 in
theorem i92_0 : ex_ X d 92 0 [.ref a, v1, v2, v3, v4, v5] [] h Q = ex_ X d 92 1 [.ref a, v1, v2, v3, v4, v5] [.ref a] h Q := ex_nx (show mx_at 92 0 = some (.aload_n 0, 1) by decide +kernel) rfl
set_option maxRecDepth 20000 in
theorem i92_1 : ex_ X d 92 1 [v0, .int x, v2, v3, v4, v5] [w0] h Q = ex_ X d 92 2 [v0, .int x, v2, v3, v4, v5] [.int x, w0] h Q := ex_nx (show mx_at 92 1 = some (.iload_n 1, 1) by decide +kernel) rfl
set_option maxRecDepth 20000 in
theorem i92_2 (hc : co_ h a = some 11) : ex_ X (d + 1) 92 2 [v0, v1, v2, v3, v4, v5] [.int x0, .ref a] h Q = ev_ X d 108 [.ref a, .int x0] h (fun r h' => ex_ X (d + 1) 92 5 [v0, v1, v2, v3, v4, v5] (r.toList ++ []) h' Q) := R_vir (show mx_at 92 2 = some (.invokevirtual 87, 3) by decide +kernel) (mx_clk ow92 cc11_87) (Nat.le_of_ble_eq_true rfl) rfl rfl hc rfl (Nat.le_of_ble_eq_true rfl) (Nat.le_of_ble_eq_true rfl) (by rw [ml108]; exact Nat.le_of_ble_eq_true rfl)
set_option maxRecDepth 20000 in
theorem i92_5 : ex_ X d 92 5 [v0, v1, v2, v3, v4, v5] [.int x] h Q = if x = 0 then ex_ X d 92 43 [v0, v1, v2, v3, v4, v5] [] h Q else ex_ X d 92 8 [v0, v1, v2, v3, v4, v5] [] h Q := (R_br (show mx_at 92 5 = some (.ifCond .eq 38, 3) by decide +kernel) rfl rfl).trans mx_ite
set_option maxRecDepth 20000 in
theorem i92_8 : ex_ X d 92 8 [v0, v1, .int x, v3, v4, v5] [] h Q = ex_ X d 92 9 [v0, v1, .int x, v3, v4, v5] [.int x] h Q := ex_nx (show mx_at 92 8 = some (.iload_n 2, 1) by decide +kernel) rfl
set_option maxRecDepth 20000 in
theorem i92_9 : ex_ X d 92 9 [v0, v1, v2, v3, v4, v5] [w0] h Q = ex_ X d 92 10 [v0, v1, v2, v3, v4, v5] [.int 1, w0] h Q := R_iconst (show mx_at 92 9 = some (.iconst 1, 1) by decide +kernel) (by decide)
set_option maxRecDepth 20000 in
theorem i92_10 : ex_ X d 92 10 [v0, v1, v2, v3, v4, v5] [w0, w1] h Q = ex_ X d 92 12 [v0, v1, v2, v3, v4, v5] [.int 9, w0, w1] h Q := R_bipush (show mx_at 92 10 = some (.bipush 9, 2) by decide +kernel) (by decide)
set_option maxRecDepth 20000 in
theorem i92_12 : ex_ X (d + 1) 92 12 [v0, v1, v2, v3, v4, v5] [.int x2, .int x1, .int x0] h Q = ev_ X d 107 [.int x0, .int x1, .int x2] h (fun r h' => ex_ X (d + 1) 92 15 [v0, v1, v2, v3, v4, v5] (r.toList ++ []) h' Q) := R_stat (show mx_at 92 12 = some (.invokestatic 68, 3) by decide +kernel) (mx_clk ow92 cc11_68) (Nat.le_of_ble_eq_true rfl) rfl rfl (Nat.le_of_ble_eq_true rfl) ml107 (Nat.le_of_ble_eq_true rfl)
set_option maxRecDepth 20000 in
theorem i92_15 : ex_ X d 92 15 [v0, v1, v2, v3, v4, v5] [.int x] h Q = if x = 0 then ex_ X d 92 43 [v0, v1, v2, v3, v4, v5] [] h Q else ex_ X d 92 18 [v0, v1, v2, v3, v4, v5] [] h Q := (R_br (show mx_at 92 15 = some (.ifCond .eq 28, 3) by decide +kernel) rfl rfl).trans mx_ite
set_option maxRecDepth 20000 in
theorem i92_18 : ex_ X d 92 18 [v0, v1, v2, .int x, v4, v5] [] h Q = ex_ X d 92 19 [v0, v1, v2, .int x, v4, v5] [.int x] h Q := ex_nx (show mx_at 92 18 = some (.iload_n 3, 1) by decide +kernel) rfl
set_option maxRecDepth 20000 in
theorem i92_19 : ex_ X d 92 19 [v0, v1, v2, v3, v4, v5] [w0] h Q = ex_ X d 92 20 [v0, v1, v2, v3, v4, v5] [.int 2, w0] h Q := R_iconst (show mx_at 92 19 = some (.iconst 2, 1) by decide +kernel) (by decide)
set_option maxRecDepth 20000 in
theorem i92_20 : ex_ X d 92 20 [v0, v1, v2, v3, v4, v5] [w0, w1] h Q = ex_ X d 92 21 [v0, v1, v2, v3, v4, v5] [.int 3, w0, w1] h Q := R_iconst (show mx_at 92 20 = some (.iconst 3, 1) by decide +kernel) (by decide)
set_option maxRecDepth 20000 in
theorem i92_21 : ex_ X (d + 1) 92 21 [v0, v1, v2, v3, v4, v5] [.int x2, .int x1, .int x0] h Q = ev_ X d 107 [.int x0, .int x1, .int x2] h (fun r h' => ex_ X (d + 1) 92 24 [v0, v1, v2, v3, v4, v5] (r.toList ++ []) h' Q) := R_stat (show mx_at 92 21 = some (.invokestatic 68, 3) by decide +kernel) (mx_clk ow92 cc11_68) (Nat.le_of_ble_eq_true rfl) rfl rfl (Nat.le_of_ble_eq_true rfl) ml107 (Nat.le_of_ble_eq_true rfl)
set_option maxRecDepth 20000 in
theorem i92_24 : ex_ X d 92 24 [v0, v1, v2, v3, v4, v5] [.int x] h Q = if x = 0 then ex_ X d 92 43 [v0, v1, v2, v3, v4, v5] [] h Q else ex_ X d 92 27 [v0, v1, v2, v3, v4, v5] [] h Q := (R_br (show mx_at 92 24 = some (.ifCond .eq 19, 3) by decide +kernel) rfl rfl).trans mx_ite
set_option maxRecDepth 20000 in
theorem i92_27 : ex_ X d 92 27 [v0, v1, v2, v3, .int x, v5] [] h Q = ex_ X d 92 29 [v0, v1, v2, v3, .int x, v5] [.int x] h Q := ex_nx (show mx_at 92 27 = some (.iload 4, 2) by decide +kernel) rfl
set_option maxRecDepth 20000 in
theorem i92_29 : ex_ X d 92 29 [v0, v1, v2, v3, v4, v5] [w0] h Q = ex_ X d 92 30 [v0, v1, v2, v3, v4, v5] [.int (-1), w0] h Q := R_iconst (show mx_at 92 29 = some (.iconst (-1), 1) by decide +kernel) (by decide)
set_option maxRecDepth 20000 in
theorem i92_30 : ex_ X d 92 30 [v0, v1, v2, .int x, v4, v5] [w0, w1] h Q = ex_ X d 92 31 [v0, v1, v2, .int x, v4, v5] [.int x, w0, w1] h Q := ex_nx (show mx_at 92 30 = some (.iload_n 3, 1) by decide +kernel) rfl
set_option maxRecDepth 20000 in
theorem i92_31 : ex_ X d 92 31 [v0, v1, v2, v3, v4, v5] [w0, w1, w2] h Q = ex_ X d 92 32 [v0, v1, v2, v3, v4, v5] [.int 1, w0, w1, w2] h Q := R_iconst (show mx_at 92 31 = some (.iconst 1, 1) by decide +kernel) (by decide)
set_option maxRecDepth 20000 in
theorem i92_32 : ex_ X d 92 32 [v0, v1, v2, v3, v4, v5] [.int y, .int x, w0, w1] h Q = ex_ X d 92 33 [v0, v1, v2, v3, v4, v5] [.int (x - y), w0, w1] h Q := ex_nx (show mx_at 92 32 = some (.isub, 1) by decide +kernel) rfl
set_option maxRecDepth 20000 in
theorem i92_33 : ex_ X (d + 1) 92 33 [v0, v1, v2, v3, v4, v5] [.int x2, .int x1, .int x0] h Q = ev_ X d 107 [.int x0, .int x1, .int x2] h (fun r h' => ex_ X (d + 1) 92 36 [v0, v1, v2, v3, v4, v5] (r.toList ++ []) h' Q) := R_stat (show mx_at 92 33 = some (.invokestatic 68, 3) by decide +kernel) (mx_clk ow92 cc11_68) (Nat.le_of_ble_eq_true rfl) rfl rfl (Nat.le_of_ble_eq_true rfl) ml107 (Nat.le_of_ble_eq_true rfl)
set_option maxRecDepth 20000 in
theorem i92_36 : ex_ X d 92 36 [v0, v1, v2, v3, v4, v5] [.int x] h Q = if x = 0 then ex_ X d 92 43 [v0, v1, v2, v3, v4, v5] [] h Q else ex_ X d 92 39 [v0, v1, v2, v3, v4, v5] [] h Q := (R_br (show mx_at 92 36 = some (.ifCond .eq 7, 3) by decide +kernel) rfl rfl).trans mx_ite
set_option maxRecDepth 20000 in
theorem i92_39 : ex_ X d 92 39 [v0, v1, v2, v3, v4, v5] [] h Q = ex_ X d 92 40 [v0, v1, v2, v3, v4, v5] [.int 1] h Q := R_iconst (show mx_at 92 39 = some (.iconst 1, 1) by decide +kernel) (by decide)
set_option maxRecDepth 20000 in
theorem i92_40 : ex_ X d 92 40 [v0, v1, v2, v3, v4, v5] [w0] h Q = ex_ X d 92 44 [v0, v1, v2, v3, v4, v5] [w0] h Q := R_to (show mx_at 92 40 = some (.goto 4, 3) by decide +kernel) rfl rfl
set_option maxRecDepth 20000 in
theorem i92_43 : ex_ X d 92 43 [v0, v1, v2, v3, v4, v5] [] h Q = ex_ X d 92 44 [v0, v1, v2, v3, v4, v5] [.int 0] h Q := R_iconst (show mx_at 92 43 = some (.iconst 0, 1) by decide +kernel) (by decide)
set_option maxRecDepth 20000 in
theorem i92_44 : ex_ X d 92 44 [v0, v1, v2, v3, v4, v5] [.int x] h Q = (mx_nl v4 = true ∧ ex_ X d 92 46 [v0, v1, v2, v3, v4, .int x] [] h Q) := mx_t1 (R_st (ok := mx_isI) (n := 5) (w := 2) (show mx_at 92 44 = some (.istore 5, 2) by decide +kernel) (fun _ _ => rfl) (Nat.le_of_ble_eq_true rfl)) rfl
set_option maxRecDepth 20000 in
theorem i92_46 : ex_ X d 92 46 [v0, v1, v2, v3, v4, .int x] [] h Q = ex_ X d 92 48 [v0, v1, v2, v3, v4, .int x] [.int x] h Q := ex_nx (show mx_at 92 46 = some (.iload 5, 2) by decide +kernel) rfl
set_option maxRecDepth 20000 in
theorem i92_48 : ex_ X d 92 48 [v0, v1, v2, v3, v4, v5] [.int x] h Q = if ¬ x = 0 then ex_ X d 92 57 [v0, v1, v2, v3, v4, v5] [] h Q else ex_ X d 92 51 [v0, v1, v2, v3, v4, v5] [] h Q := (R_br (show mx_at 92 48 = some (.ifCond .ne 9, 3) by decide +kernel) rfl rfl).trans mx_ite
set_option maxRecDepth 20000 in
theorem i92_51 : ex_ X d 92 51 [.ref a, v1, v2, v3, v4, v5] [] h Q = ex_ X d 92 52 [.ref a, v1, v2, v3, v4, v5] [.ref a] h Q := ex_nx (show mx_at 92 51 = some (.aload_n 0, 1) by decide +kernel) rfl
set_option maxRecDepth 20000 in
theorem i92_52 : ex_ X d 92 52 [v0, v1, v2, v3, v4, v5] [w0] h Q = ex_ X d 92 53 [v0, v1, v2, v3, v4, v5] [.int 1, w0] h Q := R_iconst (show mx_at 92 52 = some (.iconst 1, 1) by decide +kernel) (by decide)
set_option maxRecDepth 20000 in
theorem i92_53 (hc : co_ h a = some 11) : ex_ X (d + 1) 92 53 [v0, v1, v2, v3, v4, v5] [.int x0, .ref a] h Q = ev_ X d 106 [.ref a, .int x0] h (fun r h' => ex_ X (d + 1) 92 56 [v0, v1, v2, v3, v4, v5] (r.toList ++ []) h' Q) := R_vir (show mx_at 92 53 = some (.invokevirtual 72, 3) by decide +kernel) (mx_clk ow92 cc11_72) (Nat.le_of_ble_eq_true rfl) rfl rfl hc rfl (Nat.le_of_ble_eq_true rfl) (Nat.le_of_ble_eq_true rfl) (by rw [ml106]; exact Nat.le_of_ble_eq_true rfl)
set_option maxRecDepth 20000 in
theorem i92_56 : ex_ X d 92 56 [v0, v1, v2, v3, v4, v5] [.int x] h Q = Q (some (.int x)) h := ex_ret (show mx_at 92 56 = some (.ireturn, 1) by decide +kernel) (mx_retI rt92)
set_option maxRecDepth 20000 in
theorem i92_57 : ex_ X d 92 57 [.ref a, v1, v2, v3, v4, v5] [] h Q = ex_ X d 92 58 [.ref a, v1, v2, v3, v4, v5] [.ref a] h Q := ex_nx (show mx_at 92 57 = some (.aload_n 0, 1) by decide +kernel) rfl
set_option maxRecDepth 20000 in
theorem i92_58 : ex_ X d 92 58 [v0, v1, v2, v3, v4, v5] [w0] h Q = ex_ X d 92 60 [v0, v1, v2, v3, v4, v5] [.int (-100000000), w0] h Q := R_ldc (show mx_at 92 58 = some (.ldc 226, 2) by decide +kernel) (by decide) ow92 ki110226
set_option maxRecDepth 20000 in
theorem i92_60 : ex_ X d 92 60 [v0, v1, v2, v3, v4, v5] [w, .ref a] h Q = (pk_ 92 h a 16 w [(11, 0)] = true ∧ ex_ X d 92 63 [v0, v1, v2, v3, v4, v5] [] (pf_ h a 16 w) Q) := R_putf (show mx_at 92 60 = some (.putfield 238, 3) by decide +kernel) (mx_fdo ow92 fd110238)
set_option maxRecDepth 20000 in
theorem i92_63 : ex_ X d 92 63 [.ref a, v1, v2, v3, v4, v5] [] h Q = ex_ X d 92 64 [.ref a, v1, v2, v3, v4, v5] [.ref a] h Q := ex_nx (show mx_at 92 63 = some (.aload_n 0, 1) by decide +kernel) rfl
set_option maxRecDepth 20000 in
theorem i92_64 : ex_ X d 92 64 [.ref a, v1, v2, v3, v4, v5] [w0] h Q = ex_ X d 92 65 [.ref a, v1, v2, v3, v4, v5] [.ref a, w0] h Q := ex_nx (show mx_at 92 64 = some (.aload_n 0, 1) by decide +kernel) rfl
set_option maxRecDepth 20000 in
theorem i92_65 : ex_ X d 92 65 [v0, v1, v2, v3, v4, v5] [.ref a, w0] h Q = (gk_ h a 0 [(11, 0)] = true ∧ ex_ X d 92 68 [v0, v1, v2, v3, v4, v5] [gv_ h a 0, w0] h Q) := R_getf (show mx_at 92 65 = some (.getfield 12, 3) by decide +kernel) (mx_fdo ow92 fd110012)
set_option maxRecDepth 20000 in
theorem i92_68 : ex_ X d 92 68 [v0, .int x, v2, v3, v4, v5] [w0, w1] h Q = ex_ X d 92 69 [v0, .int x, v2, v3, v4, v5] [.int x, w0, w1] h Q := ex_nx (show mx_at 92 68 = some (.iload_n 1, 1) by decide +kernel) rfl
set_option maxRecDepth 20000 in
theorem i92_69 : ex_ X d 92 69 [v0, v1, .int x, v3, v4, v5] [w0, w1, w2] h Q = ex_ X d 92 70 [v0, v1, .int x, v3, v4, v5] [.int x, w0, w1, w2] h Q := ex_nx (show mx_at 92 69 = some (.iload_n 2, 1) by decide +kernel) rfl
set_option maxRecDepth 20000 in
theorem i92_70 : ex_ X d 92 70 [v0, v1, v2, .int x, v4, v5] [w0, w1, w2, w3] h Q = ex_ X d 92 71 [v0, v1, v2, .int x, v4, v5] [.int x, w0, w1, w2, w3] h Q := ex_nx (show mx_at 92 70 = some (.iload_n 3, 1) by decide +kernel) rfl
set_option maxRecDepth 20000 in
theorem i92_71 : ex_ X d 92 71 [v0, v1, v2, v3, v4, v5] [w0, w1, w2, w3, w4] h Q = ex_ X d 92 72 [v0, v1, v2, v3, v4, v5] [.int 0, w0, w1, w2, w3, w4] h Q := R_iconst (show mx_at 92 71 = some (.iconst 0, 1) by decide +kernel) (by decide)
set_option maxRecDepth 20000 in
theorem i92_72 (hc : co_ h a = some 11) : ex_ X (d + 1) 92 72 [v0, v1, v2, v3, v4, v5] [.int x4, .int x3, .int x2, .int x1, .ref a0, .ref a] h Q = ev_ X d 121 [.ref a, .ref a0, .int x1, .int x2, .int x3, .int x4] h (fun r h' => ex_ X (d + 1) 92 75 [v0, v1, v2, v3, v4, v5] (r.toList ++ []) h' Q) := R_vir (show mx_at 92 72 = some (.invokevirtual 241, 3) by decide +kernel) (mx_clk ow92 cc11_241) (Nat.le_of_ble_eq_true rfl) rfl rfl hc rfl (Nat.le_of_ble_eq_true rfl) (Nat.le_of_ble_eq_true rfl) (by rw [ml121]; exact Nat.le_of_ble_eq_true rfl)
set_option maxRecDepth 20000 in
theorem i92_75 : ex_ X d 92 75 [v0, v1, v2, v3, .int x, v5] [] h Q = ex_ X d 92 77 [v0, v1, v2, v3, .int x, v5] [.int x] h Q := ex_nx (show mx_at 92 75 = some (.iload 4, 2) by decide +kernel) rfl
set_option maxRecDepth 20000 in
theorem i92_77 : ex_ X d 92 77 [v0, v1, v2, v3, v4, v5] [.int x] h Q = if 0 ≤ x then ex_ X d 92 87 [v0, v1, v2, v3, v4, v5] [] h Q else ex_ X d 92 80 [v0, v1, v2, v3, v4, v5] [] h Q := (R_br (show mx_at 92 77 = some (.ifCond .ge 10, 3) by decide +kernel) rfl rfl).trans mx_ite
set_option maxRecDepth 20000 in
theorem i92_80 : ex_ X d 92 80 [.ref a, v1, v2, v3, v4, v5] [] h Q = ex_ X d 92 81 [.ref a, v1, v2, v3, v4, v5] [.ref a] h Q := ex_nx (show mx_at 92 80 = some (.aload_n 0, 1) by decide +kernel) rfl
set_option maxRecDepth 20000 in
theorem i92_81 : ex_ X d 92 81 [v0, v1, v2, v3, v4, v5] [.ref a] h Q = (gk_ h a 16 [(11, 0)] = true ∧ ex_ X d 92 84 [v0, v1, v2, v3, v4, v5] [gv_ h a 16] h Q) := R_getf (show mx_at 92 81 = some (.getfield 238, 3) by decide +kernel) (mx_fdo ow92 fd110238)
set_option maxRecDepth 20000 in
theorem i92_84 : ex_ X d 92 84 [v0, v1, v2, v3, v4, v5] [w0] h Q = ex_ X d 92 94 [v0, v1, v2, v3, v4, v5] [w0] h Q := R_to (show mx_at 92 84 = some (.goto 10, 3) by decide +kernel) rfl rfl
set_option maxRecDepth 20000 in
theorem i92_87 : ex_ X d 92 87 [.ref a, v1, v2, v3, v4, v5] [] h Q = ex_ X d 92 88 [.ref a, v1, v2, v3, v4, v5] [.ref a] h Q := ex_nx (show mx_at 92 87 = some (.aload_n 0, 1) by decide +kernel) rfl
set_option maxRecDepth 20000 in
theorem i92_88 : ex_ X d 92 88 [v0, v1, v2, v3, v4, v5] [.ref a] h Q = (gk_ h a 15 [(11, 0)] = true ∧ ex_ X d 92 91 [v0, v1, v2, v3, v4, v5] [gv_ h a 15] h Q) := R_getf (show mx_at 92 88 = some (.getfield 64, 3) by decide +kernel) (mx_fdo ow92 fd110064)
set_option maxRecDepth 20000 in
theorem i92_91 : ex_ X d 92 91 [v0, v1, v2, v3, .int x, v5] [w0] h Q = ex_ X d 92 93 [v0, v1, v2, v3, .int x, v5] [.int x, w0] h Q := ex_nx (show mx_at 92 91 = some (.iload 4, 2) by decide +kernel) rfl
set_option maxRecDepth 20000 in
theorem i92_93 : ex_ X d 92 93 [v0, v1, v2, v3, v4, v5] [.int i, .ref a] h Q = (ik_ h a i = true ∧ ex_ X d 92 94 [v0, v1, v2, v3, v4, v5] [.int (ia_ h a i)] h Q) := R_iald (show mx_at 92 93 = some (.iaload, 1) by decide +kernel)
set_option maxRecDepth 20000 in
theorem i92_94 : ex_ X d 92 94 [v0, v1, v2, v3, v4, v5] [.int x] h Q = Q (some (.int x)) h := ex_ret (show mx_at 92 94 = some (.ireturn, 1) by decide +kernel) (mx_retI rt92)
theorem i92_e : ev_ X d 92 [.ref a, .int x0, .int x1, .int x2, .int x3] h Q = ex_ X d 92 0 [.ref a, .int x0, .int x1, .int x2, .int x3, .double 0] [] h Q := by rw [ev_, ml92]; rfl
-- 93 X11_first
set_option maxRecDepth 20000 in
theorem i93_0 : ex_ X d 93 0 [.ref a, v1, v2] [] h Q = ex_ X d 93 1 [.ref a, v1, v2] [.ref a] h Q := ex_nx (show mx_at 93 0 = some (.aload_n 0, 1) by decide +kernel) rfl
set_option maxRecDepth 20000 in
theorem i93_1 : ex_ X d 93 1 [v0, .int x, v2] [w0] h Q = ex_ X d 93 2 [v0, .int x, v2] [.int x, w0] h Q := ex_nx (show mx_at 93 1 = some (.iload_n 1, 1) by decide +kernel) rfl
set_option maxRecDepth 20000 in
theorem i93_2 (hc : co_ h a = some 11) : ex_ X (d + 1) 93 2 [v0, v1, v2] [.int x0, .ref a] h Q = ev_ X d 109 [.ref a, .int x0] h (fun r h' => ex_ X (d + 1) 93 5 [v0, v1, v2] (r.toList ++ []) h' Q) := R_vir (show mx_at 93 2 = some (.invokevirtual 134, 3) by decide +kernel) (mx_clk ow93 cc11_134) (Nat.le_of_ble_eq_true rfl) rfl rfl hc rfl (Nat.le_of_ble_eq_true rfl) (Nat.le_of_ble_eq_true rfl) (by rw [ml109]; exact Nat.le_of_ble_eq_true rfl)
set_option maxRecDepth 20000 in
theorem i93_5 : ex_ X d 93 5 [v0, v1, v2] [.int x] h Q = if ¬ x = 0 then ex_ X d 93 14 [v0, v1, v2] [] h Q else ex_ X d 93 8 [v0, v1, v2] [] h Q := (R_br (show mx_at 93 5 = some (.ifCond .ne 9, 3) by decide +kernel) rfl rfl).trans mx_ite
set_option maxRecDepth 20000 in
theorem i93_8 : ex_ X d 93 8 [.ref a, v1, v2] [] h Q = ex_ X d 93 9 [.ref a, v1, v2] [.ref a] h Q := ex_nx (show mx_at 93 8 = some (.aload_n 0, 1) by decide +kernel) rfl
set_option maxRecDepth 20000 in
theorem i93_9 : ex_ X d 93 9 [v0, v1, v2] [w0] h Q = ex_ X d 93 10 [v0, v1, v2] [.int 1, w0] h Q := R_iconst (show mx_at 93 9 = some (.iconst 1, 1) by decide +kernel) (by decide)
set_option maxRecDepth 20000 in
theorem i93_10 (hc : co_ h a = some 11) : ex_ X (d + 1) 93 10 [v0, v1, v2] [.int x0, .ref a] h Q = ev_ X d 106 [.ref a, .int x0] h (fun r h' => ex_ X (d + 1) 93 13 [v0, v1, v2] (r.toList ++ []) h' Q) := R_vir (show mx_at 93 10 = some (.invokevirtual 72, 3) by decide +kernel) (mx_clk ow93 cc11_72) (Nat.le_of_ble_eq_true rfl) rfl rfl hc rfl (Nat.le_of_ble_eq_true rfl) (Nat.le_of_ble_eq_true rfl) (by rw [ml106]; exact Nat.le_of_ble_eq_true rfl)
set_option maxRecDepth 20000 in
theorem i93_13 : ex_ X d 93 13 [v0, v1, v2] [.int x] h Q = Q (some (.int x)) h := ex_ret (show mx_at 93 13 = some (.ireturn, 1) by decide +kernel) (mx_retI rt93)
set_option maxRecDepth 20000 in
theorem i93_14 : ex_ X d 93 14 [.ref a, v1, v2] [] h Q = ex_ X d 93 15 [.ref a, v1, v2] [.ref a] h Q := ex_nx (show mx_at 93 14 = some (.aload_n 0, 1) by decide +kernel) rfl
set_option maxRecDepth 20000 in
theorem i93_15 : ex_ X d 93 15 [v0, v1, v2] [.ref a] h Q = (gk_ h a 0 [(11, 0)] = true ∧ ex_ X d 93 18 [v0, v1, v2] [gv_ h a 0] h Q) := R_getf (show mx_at 93 15 = some (.getfield 12, 3) by decide +kernel) (mx_fdo ow93 fd110012)
set_option maxRecDepth 20000 in
theorem i93_18 (hc : co_ h a = some 3) : ex_ X (d + 1) 93 18 [v0, v1, v2] [.ref a] h Q = ev_ X d 24 [.ref a] h (fun r h' => ex_ X (d + 1) 93 21 [v0, v1, v2] (r.toList ++ []) h' Q) := R_vir (show mx_at 93 18 = some (.invokevirtual 245, 3) by decide +kernel) (mx_clk ow93 cc11_245) (Nat.le_of_ble_eq_true rfl) rfl rfl hc rfl (Nat.le_of_ble_eq_true rfl) (Nat.le_of_ble_eq_true rfl) (by rw [ml24]; exact Nat.le_of_ble_eq_true rfl)
set_option maxRecDepth 20000 in
theorem i93_21 : ex_ X d 93 21 [v0, v1, v2] [.int x] h Q = (mx_nl v1 = true ∧ ex_ X d 93 22 [v0, v1, .int x] [] h Q) := mx_t1 (R_st (ok := mx_isI) (n := 2) (w := 1) (show mx_at 93 21 = some (.istore_n 2, 1) by decide +kernel) (fun _ _ => rfl) (Nat.le_of_ble_eq_true rfl)) rfl
set_option maxRecDepth 20000 in
theorem i93_22 : ex_ X d 93 22 [v0, v1, .int x] [] h Q = ex_ X d 93 23 [v0, v1, .int x] [.int x] h Q := ex_nx (show mx_at 93 22 = some (.iload_n 2, 1) by decide +kernel) rfl
set_option maxRecDepth 20000 in
theorem i93_23 : ex_ X d 93 23 [v0, v1, v2] [.int x] h Q = if 0 ≤ x then ex_ X d 93 34 [v0, v1, v2] [] h Q else ex_ X d 93 26 [v0, v1, v2] [] h Q := (R_br (show mx_at 93 23 = some (.ifCond .ge 11, 3) by decide +kernel) rfl rfl).trans mx_ite
set_option maxRecDepth 20000 in
theorem i93_26 : ex_ X d 93 26 [.ref a, v1, v2] [] h Q = ex_ X d 93 27 [.ref a, v1, v2] [.ref a] h Q := ex_nx (show mx_at 93 26 = some (.aload_n 0, 1) by decide +kernel) rfl
set_option maxRecDepth 20000 in
theorem i93_27 : ex_ X d 93 27 [v0, v1, v2] [w0] h Q = ex_ X d 93 28 [v0, v1, v2] [.int 2, w0] h Q := R_iconst (show mx_at 93 27 = some (.iconst 2, 1) by decide +kernel) (by decide)
set_option maxRecDepth 20000 in
theorem i93_28 (hc : co_ h a = some 11) : ex_ X (d + 1) 93 28 [v0, v1, v2] [.int x0, .ref a] h Q = ev_ X d 106 [.ref a, .int x0] h (fun r h' => ex_ X (d + 1) 93 31 [v0, v1, v2] (r.toList ++ []) h' Q) := R_vir (show mx_at 93 28 = some (.invokevirtual 72, 3) by decide +kernel) (mx_clk ow93 cc11_72) (Nat.le_of_ble_eq_true rfl) rfl rfl hc rfl (Nat.le_of_ble_eq_true rfl) (Nat.le_of_ble_eq_true rfl) (by rw [ml106]; exact Nat.le_of_ble_eq_true rfl)
set_option maxRecDepth 20000 in
theorem i93_31 : ex_ X d 93 31 [v0, v1, v2] [w0] h Q = ex_ X d 93 35 [v0, v1, v2] [w0] h Q := R_to (show mx_at 93 31 = some (.goto 4, 3) by decide +kernel) rfl rfl
set_option maxRecDepth 20000 in
theorem i93_34 : ex_ X d 93 34 [v0, v1, .int x] [] h Q = ex_ X d 93 35 [v0, v1, .int x] [.int x] h Q := ex_nx (show mx_at 93 34 = some (.iload_n 2, 1) by decide +kernel) rfl
set_option maxRecDepth 20000 in
theorem i93_35 : ex_ X d 93 35 [v0, v1, v2] [.int x] h Q = Q (some (.int x)) h := ex_ret (show mx_at 93 35 = some (.ireturn, 1) by decide +kernel) (mx_retI rt93)
theorem i93_e : ev_ X d 93 [.ref a, .int x0] h Q = ex_ X d 93 0 [.ref a, .int x0, .double 0] [] h Q := by rw [ev_, ml93]; rfl
-- 94 X11_seed
set_option maxRecDepth 20000 in
theorem i94_0 : ex_ X d 94 0 [.ref a, v1, v2] [] h Q = ex_ X d 94 1 [.ref a, v1, v2] [.ref a] h Q := ex_nx (show mx_at 94 0 = some (.aload_n 0, 1) by decide +kernel) rfl
set_option maxRecDepth 20000 in
theorem i94_1 : ex_ X d 94 1 [v0, v1, v2] [.ref a] h Q = (gk_ h a 3 [(11, 0)] = true ∧ ex_ X d 94 4 [v0, v1, v2] [gv_ h a 3] h Q) := R_getf (show mx_at 94 1 = some (.getfield 28, 3) by decide +kernel) (mx_fdo ow94 fd110028)
set_option maxRecDepth 20000 in
theorem i94_4 : ex_ X d 94 4 [v0, v1, v2] [.int x] h Q = (mx_nl v1 = true ∧ ex_ X d 94 5 [v0, v1, .int x] [] h Q) := mx_t1 (R_st (ok := mx_isI) (n := 2) (w := 1) (show mx_at 94 4 = some (.istore_n 2, 1) by decide +kernel) (fun _ _ => rfl) (Nat.le_of_ble_eq_true rfl)) rfl
set_option maxRecDepth 20000 in
theorem i94_5 : ex_ X d 94 5 [.ref a, v1, v2] [] h Q = ex_ X d 94 6 [.ref a, v1, v2] [.ref a] h Q := ex_nx (show mx_at 94 5 = some (.aload_n 0, 1) by decide +kernel) rfl
set_option maxRecDepth 20000 in
theorem i94_6 : ex_ X d 94 6 [v0, .int x, v2] [w0] h Q = ex_ X d 94 7 [v0, .int x, v2] [.int x, w0] h Q := ex_nx (show mx_at 94 6 = some (.iload_n 1, 1) by decide +kernel) rfl
set_option maxRecDepth 20000 in
theorem i94_7 : ex_ X d 94 7 [v0, v1, v2] [w, .ref a] h Q = (pk_ 94 h a 3 w [(11, 0)] = true ∧ ex_ X d 94 10 [v0, v1, v2] [] (pf_ h a 3 w) Q) := R_putf (show mx_at 94 7 = some (.putfield 28, 3) by decide +kernel) (mx_fdo ow94 fd110028)
set_option maxRecDepth 20000 in
theorem i94_10 : ex_ X d 94 10 [v0, v1, .int x] [] h Q = ex_ X d 94 11 [v0, v1, .int x] [.int x] h Q := ex_nx (show mx_at 94 10 = some (.iload_n 2, 1) by decide +kernel) rfl
set_option maxRecDepth 20000 in
theorem i94_11 : ex_ X d 94 11 [v0, v1, v2] [.int x] h Q = Q (some (.int x)) h := ex_ret (show mx_at 94 11 = some (.ireturn, 1) by decide +kernel) (mx_retI rt94)
theorem i94_e : ev_ X d 94 [.ref a, .int x0] h Q = ex_ X d 94 0 [.ref a, .int x0, .double 0] [] h Q := by rw [ev_, ml94]; rfl
-- 95 X11_voice
set_option maxRecDepth 20000 in
theorem i95_0 : ex_ X d 95 0 [.ref a, v1, v2, v3, v4] [] h Q = ex_ X d 95 1 [.ref a, v1, v2, v3, v4] [.ref a] h Q := ex_nx (show mx_at 95 0 = some (.aload_n 0, 1) by decide +kernel) rfl
set_option maxRecDepth 20000 in
theorem i95_1 : ex_ X d 95 1 [v0, .int x, v2, v3, v4] [w0] h Q = ex_ X d 95 2 [v0, .int x, v2, v3, v4] [.int x, w0] h Q := ex_nx (show mx_at 95 1 = some (.iload_n 1, 1) by decide +kernel) rfl
set_option maxRecDepth 20000 in
theorem i95_2 (hc : co_ h a = some 11) : ex_ X (d + 1) 95 2 [v0, v1, v2, v3, v4] [.int x0, .ref a] h Q = ev_ X d 108 [.ref a, .int x0] h (fun r h' => ex_ X (d + 1) 95 5 [v0, v1, v2, v3, v4] (r.toList ++ []) h' Q) := R_vir (show mx_at 95 2 = some (.invokevirtual 87, 3) by decide +kernel) (mx_clk ow95 cc11_87) (Nat.le_of_ble_eq_true rfl) rfl rfl hc rfl (Nat.le_of_ble_eq_true rfl) (Nat.le_of_ble_eq_true rfl) (by rw [ml108]; exact Nat.le_of_ble_eq_true rfl)
set_option maxRecDepth 20000 in
theorem i95_5 : ex_ X d 95 5 [v0, v1, v2, v3, v4] [.int x] h Q = if x = 0 then ex_ X d 95 17 [v0, v1, v2, v3, v4] [] h Q else ex_ X d 95 8 [v0, v1, v2, v3, v4] [] h Q := (R_br (show mx_at 95 5 = some (.ifCond .eq 12, 3) by decide +kernel) rfl rfl).trans mx_ite
set_option maxRecDepth 20000 in
theorem i95_8 : ex_ X d 95 8 [v0, v1, .int x, v3, v4] [] h Q = ex_ X d 95 9 [v0, v1, .int x, v3, v4] [.int x] h Q := ex_nx (show mx_at 95 8 = some (.iload_n 2, 1) by decide +kernel) rfl
set_option maxRecDepth 20000 in
theorem i95_9 : ex_ X d 95 9 [v0, v1, v2, v3, v4] [w0] h Q = ex_ X d 95 10 [v0, v1, v2, v3, v4] [.int 0, w0] h Q := R_iconst (show mx_at 95 9 = some (.iconst 0, 1) by decide +kernel) (by decide)
set_option maxRecDepth 20000 in
theorem i95_10 : ex_ X d 95 10 [v0, v1, v2, v3, v4] [w0, w1] h Q = ex_ X d 95 11 [v0, v1, v2, v3, v4] [.int 3, w0, w1] h Q := R_iconst (show mx_at 95 10 = some (.iconst 3, 1) by decide +kernel) (by decide)
set_option maxRecDepth 20000 in
theorem i95_11 : ex_ X (d + 1) 95 11 [v0, v1, v2, v3, v4] [.int x2, .int x1, .int x0] h Q = ev_ X d 107 [.int x0, .int x1, .int x2] h (fun r h' => ex_ X (d + 1) 95 14 [v0, v1, v2, v3, v4] (r.toList ++ []) h' Q) := R_stat (show mx_at 95 11 = some (.invokestatic 68, 3) by decide +kernel) (mx_clk ow95 cc11_68) (Nat.le_of_ble_eq_true rfl) rfl rfl (Nat.le_of_ble_eq_true rfl) ml107 (Nat.le_of_ble_eq_true rfl)
set_option maxRecDepth 20000 in
theorem i95_14 : ex_ X d 95 14 [v0, v1, v2, v3, v4] [.int x] h Q = if ¬ x = 0 then ex_ X d 95 23 [v0, v1, v2, v3, v4] [] h Q else ex_ X d 95 17 [v0, v1, v2, v3, v4] [] h Q := (R_br (show mx_at 95 14 = some (.ifCond .ne 9, 3) by decide +kernel) rfl rfl).trans mx_ite
set_option maxRecDepth 20000 in
theorem i95_17 : ex_ X d 95 17 [.ref a, v1, v2, v3, v4] [] h Q = ex_ X d 95 18 [.ref a, v1, v2, v3, v4] [.ref a] h Q := ex_nx (show mx_at 95 17 = some (.aload_n 0, 1) by decide +kernel) rfl
set_option maxRecDepth 20000 in
theorem i95_18 : ex_ X d 95 18 [v0, v1, v2, v3, v4] [w0] h Q = ex_ X d 95 19 [v0, v1, v2, v3, v4] [.int 1, w0] h Q := R_iconst (show mx_at 95 18 = some (.iconst 1, 1) by decide +kernel) (by decide)
set_option maxRecDepth 20000 in
theorem i95_19 (hc : co_ h a = some 11) : ex_ X (d + 1) 95 19 [v0, v1, v2, v3, v4] [.int x0, .ref a] h Q = ev_ X d 106 [.ref a, .int x0] h (fun r h' => ex_ X (d + 1) 95 22 [v0, v1, v2, v3, v4] (r.toList ++ []) h' Q) := R_vir (show mx_at 95 19 = some (.invokevirtual 72, 3) by decide +kernel) (mx_clk ow95 cc11_72) (Nat.le_of_ble_eq_true rfl) rfl rfl hc rfl (Nat.le_of_ble_eq_true rfl) (Nat.le_of_ble_eq_true rfl) (by rw [ml106]; exact Nat.le_of_ble_eq_true rfl)
set_option maxRecDepth 20000 in
theorem i95_22 : ex_ X d 95 22 [v0, v1, v2, v3, v4] [.int x] h Q = Q (some (.int x)) h := ex_ret (show mx_at 95 22 = some (.ireturn, 1) by decide +kernel) (mx_retI rt95)
set_option maxRecDepth 20000 in
theorem i95_23 : ex_ X d 95 23 [.ref a, v1, v2, v3, v4] [] h Q = ex_ X d 95 24 [.ref a, v1, v2, v3, v4] [.ref a] h Q := ex_nx (show mx_at 95 23 = some (.aload_n 0, 1) by decide +kernel) rfl
set_option maxRecDepth 20000 in
theorem i95_24 : ex_ X d 95 24 [v0, v1, v2, v3, v4] [.ref a] h Q = (gk_ h a 0 [(11, 0)] = true ∧ ex_ X d 95 27 [v0, v1, v2, v3, v4] [gv_ h a 0] h Q) := R_getf (show mx_at 95 24 = some (.getfield 12, 3) by decide +kernel) (mx_fdo ow95 fd110012)
set_option maxRecDepth 20000 in
theorem i95_27 : ex_ X d 95 27 [v0, v1, v2, v3, v4] [.ref a] h Q = (gk_ h a 6 [(3, 0)] = true ∧ ex_ X d 95 30 [v0, v1, v2, v3, v4] [gv_ h a 6] h Q) := R_getf (show mx_at 95 27 = some (.getfield 108, 3) by decide +kernel) (mx_fdo ow95 fd110108)
set_option maxRecDepth 20000 in
theorem i95_30 : ex_ X d 95 30 [v0, .int x, v2, v3, v4] [w0] h Q = ex_ X d 95 31 [v0, .int x, v2, v3, v4] [.int x, w0] h Q := ex_nx (show mx_at 95 30 = some (.iload_n 1, 1) by decide +kernel) rfl
set_option maxRecDepth 20000 in
theorem i95_31 : ex_ X d 95 31 [v0, v1, v2, v3, v4] [.int i, .ref a] h Q = (rk_ h a i = true ∧ ex_ X d 95 32 [v0, v1, v2, v3, v4] [mx_vr (ra_ h a i)] h Q) := R_aald (show mx_at 95 31 = some (.aaload, 1) by decide +kernel)
set_option maxRecDepth 20000 in
theorem i95_32 : ex_ X d 95 32 [v0, v1, v2, v3, v4] [.ref a] h Q = (mx_nl v3 = true ∧ ex_ X d 95 34 [v0, v1, v2, v3, .ref a] [] h Q) := mx_t1 (R_st (ok := mx_isA) (n := 4) (w := 2) (show mx_at 95 32 = some (.astore 4, 2) by decide +kernel) (fun _ _ => rfl) (Nat.le_of_ble_eq_true rfl)) rfl
set_option maxRecDepth 20000 in
theorem i95_34 : ex_ X d 95 34 [.ref a, v1, v2, v3, v4] [] h Q = ex_ X d 95 35 [.ref a, v1, v2, v3, v4] [.ref a] h Q := ex_nx (show mx_at 95 34 = some (.aload_n 0, 1) by decide +kernel) rfl
set_option maxRecDepth 20000 in
theorem i95_35 : ex_ X d 95 35 [v0, v1, v2, v3, v4] [.ref a] h Q = (gk_ h a 9 [(11, 0)] = true ∧ ex_ X d 95 38 [v0, v1, v2, v3, v4] [gv_ h a 9] h Q) := R_getf (show mx_at 95 35 = some (.getfield 41, 3) by decide +kernel) (mx_fdo ow95 fd110041)
set_option maxRecDepth 20000 in
theorem i95_38 (hc : co_ h a = some 5) : ex_ X (d + 1) 95 38 [v0, v1, v2, v3, v4] [.ref a] h Q = ev_ X d 37 [.ref a] h (fun r h' => ex_ X (d + 1) 95 41 [v0, v1, v2, v3, v4] (r.toList ++ []) h' Q) := R_vir (show mx_at 95 38 = some (.invokevirtual 191, 3) by decide +kernel) (mx_clk ow95 cc11_191) (Nat.le_of_ble_eq_true rfl) rfl rfl hc rfl (Nat.le_of_ble_eq_true rfl) (Nat.le_of_ble_eq_true rfl) (by rw [ml37]; exact Nat.le_of_ble_eq_true rfl)
set_option maxRecDepth 20000 in
theorem i95_41 : ex_ X d 95 41 [v0, v1, .int x, v3, v4] [] h Q = ex_ X d 95 42 [v0, v1, .int x, v3, v4] [.int x] h Q := ex_nx (show mx_at 95 41 = some (.iload_n 2, 1) by decide +kernel) rfl
set_option maxRecDepth 20000 in
theorem i95_42_0 : ex_ X d 95 42 [v0, v1, v2, v3, v4] [.int 0] h Q = ex_ X d 95 68 [v0, v1, v2, v3, v4] [] h Q := R_tsw (off := 26) (show mx_at 95 42 = some (.tableswitch 59 0 2 #[26, 37, 48], 26) by decide +kernel) (by decide) rfl
set_option maxRecDepth 20000 in
theorem i95_42_1 : ex_ X d 95 42 [v0, v1, v2, v3, v4] [.int 1] h Q = ex_ X d 95 79 [v0, v1, v2, v3, v4] [] h Q := R_tsw (off := 37) (show mx_at 95 42 = some (.tableswitch 59 0 2 #[26, 37, 48], 26) by decide +kernel) (by decide) rfl
set_option maxRecDepth 20000 in
theorem i95_42_2 : ex_ X d 95 42 [v0, v1, v2, v3, v4] [.int 2] h Q = ex_ X d 95 90 [v0, v1, v2, v3, v4] [] h Q := R_tsw (off := 48) (show mx_at 95 42 = some (.tableswitch 59 0 2 #[26, 37, 48], 26) by decide +kernel) (by decide) rfl
set_option maxRecDepth 20000 in
theorem i95_42_d (hx : x.toInt < 0 ∨ 2 < x.toInt) : ex_ X d 95 42 [v0, v1, v2, v3, v4] [.int x] h Q = ex_ X d 95 101 [v0, v1, v2, v3, v4] [] h Q := R_tsw (off := 59) (show mx_at 95 42 = some (.tableswitch 59 0 2 #[26, 37, 48], 26) by decide +kernel) (if_pos hx) rfl
set_option maxRecDepth 20000 in
theorem i95_68 : ex_ X d 95 68 [v0, v1, v2, v3, .ref a] [] h Q = ex_ X d 95 70 [v0, v1, v2, v3, .ref a] [.ref a] h Q := ex_nx (show mx_at 95 68 = some (.aload 4, 2) by decide +kernel) rfl
set_option maxRecDepth 20000 in
theorem i95_70 : ex_ X d 95 70 [v0, v1, v2, .int x, v4] [w0] h Q = ex_ X d 95 71 [v0, v1, v2, .int x, v4] [.int x, w0] h Q := ex_nx (show mx_at 95 70 = some (.iload_n 3, 1) by decide +kernel) rfl
set_option maxRecDepth 20000 in
theorem i95_71 : ex_ X d 95 71 [.ref a, v1, v2, v3, v4] [w0, w1] h Q = ex_ X d 95 72 [.ref a, v1, v2, v3, v4] [.ref a, w0, w1] h Q := ex_nx (show mx_at 95 71 = some (.aload_n 0, 1) by decide +kernel) rfl
set_option maxRecDepth 20000 in
theorem i95_72 : ex_ X d 95 72 [v0, v1, v2, v3, v4] [.ref a, w0, w1] h Q = (gk_ h a 9 [(11, 0)] = true ∧ ex_ X d 95 75 [v0, v1, v2, v3, v4] [gv_ h a 9, w0, w1] h Q) := R_getf (show mx_at 95 72 = some (.getfield 41, 3) by decide +kernel) (mx_fdo ow95 fd110041)
set_option maxRecDepth 20000 in
theorem i95_75_c0 (hc : co_ h a = some 0) : ex_ X (d + 1) 95 75 [v0, v1, v2, v3, v4] [.ref a1, .int x0, .ref a] h Q = ev_ X d 43 [.ref a, .int x0, .ref a1] h (fun r h' => ex_ X (d + 1) 95 78 [v0, v1, v2, v3, v4] (r.toList ++ []) h' Q) := R_vir (show mx_at 95 75 = some (.invokevirtual 248, 3) by decide +kernel) (mx_clk ow95 cc11_248) (Nat.le_of_ble_eq_true rfl) rfl rfl hc rfl (Nat.le_of_ble_eq_true rfl) (Nat.le_of_ble_eq_true rfl) (by rw [ml43]; exact Nat.le_of_ble_eq_true rfl)
set_option maxRecDepth 20000 in
theorem i95_75_c1 (hc : co_ h a = some 1) : ex_ X (d + 1) 95 75 [v0, v1, v2, v3, v4] [.ref a1, .int x0, .ref a] h Q = ev_ X d 43 [.ref a, .int x0, .ref a1] h (fun r h' => ex_ X (d + 1) 95 78 [v0, v1, v2, v3, v4] (r.toList ++ []) h' Q) := R_vir (show mx_at 95 75 = some (.invokevirtual 248, 3) by decide +kernel) (mx_clk ow95 cc11_248) (Nat.le_of_ble_eq_true rfl) rfl rfl hc rfl (Nat.le_of_ble_eq_true rfl) (Nat.le_of_ble_eq_true rfl) (by rw [ml43]; exact Nat.le_of_ble_eq_true rfl)
set_option maxRecDepth 20000 in
theorem i95_75_c2 (hc : co_ h a = some 2) : ex_ X (d + 1) 95 75 [v0, v1, v2, v3, v4] [.ref a1, .int x0, .ref a] h Q = ev_ X d 9 [.ref a, .int x0, .ref a1] h (fun r h' => ex_ X (d + 1) 95 78 [v0, v1, v2, v3, v4] (r.toList ++ []) h' Q) := R_vir (show mx_at 95 75 = some (.invokevirtual 248, 3) by decide +kernel) (mx_clk ow95 cc11_248) (Nat.le_of_ble_eq_true rfl) rfl rfl hc rfl (Nat.le_of_ble_eq_true rfl) (Nat.le_of_ble_eq_true rfl) (by rw [ml9]; exact Nat.le_of_ble_eq_true rfl)
set_option maxRecDepth 20000 in
theorem i95_75_c4 (hc : co_ h a = some 4) : ex_ X (d + 1) 95 75 [v0, v1, v2, v3, v4] [.ref a1, .int x0, .ref a] h Q = ev_ X d 43 [.ref a, .int x0, .ref a1] h (fun r h' => ex_ X (d + 1) 95 78 [v0, v1, v2, v3, v4] (r.toList ++ []) h' Q) := R_vir (show mx_at 95 75 = some (.invokevirtual 248, 3) by decide +kernel) (mx_clk ow95 cc11_248) (Nat.le_of_ble_eq_true rfl) rfl rfl hc rfl (Nat.le_of_ble_eq_true rfl) (Nat.le_of_ble_eq_true rfl) (by rw [ml43]; exact Nat.le_of_ble_eq_true rfl)
set_option maxRecDepth 20000 in
theorem i95_75_c6 (hc : co_ h a = some 6) : ex_ X (d + 1) 95 75 [v0, v1, v2, v3, v4] [.ref a1, .int x0, .ref a] h Q = ev_ X d 43 [.ref a, .int x0, .ref a1] h (fun r h' => ex_ X (d + 1) 95 78 [v0, v1, v2, v3, v4] (r.toList ++ []) h' Q) := R_vir (show mx_at 95 75 = some (.invokevirtual 248, 3) by decide +kernel) (mx_clk ow95 cc11_248) (Nat.le_of_ble_eq_true rfl) rfl rfl hc rfl (Nat.le_of_ble_eq_true rfl) (Nat.le_of_ble_eq_true rfl) (by rw [ml43]; exact Nat.le_of_ble_eq_true rfl)
set_option maxRecDepth 20000 in
theorem i95_75_c8 (hc : co_ h a = some 8) : ex_ X (d + 1) 95 75 [v0, v1, v2, v3, v4] [.ref a1, .int x0, .ref a] h Q = ev_ X d 54 [.ref a, .int x0, .ref a1] h (fun r h' => ex_ X (d + 1) 95 78 [v0, v1, v2, v3, v4] (r.toList ++ []) h' Q) := R_vir (show mx_at 95 75 = some (.invokevirtual 248, 3) by decide +kernel) (mx_clk ow95 cc11_248) (Nat.le_of_ble_eq_true rfl) rfl rfl hc rfl (Nat.le_of_ble_eq_true rfl) (Nat.le_of_ble_eq_true rfl) (by rw [ml54]; exact Nat.le_of_ble_eq_true rfl)
set_option maxRecDepth 20000 in
theorem i95_75_c9 (hc : co_ h a = some 9) : ex_ X (d + 1) 95 75 [v0, v1, v2, v3, v4] [.ref a1, .int x0, .ref a] h Q = ev_ X d 43 [.ref a, .int x0, .ref a1] h (fun r h' => ex_ X (d + 1) 95 78 [v0, v1, v2, v3, v4] (r.toList ++ []) h' Q) := R_vir (show mx_at 95 75 = some (.invokevirtual 248, 3) by decide +kernel) (mx_clk ow95 cc11_248) (Nat.le_of_ble_eq_true rfl) rfl rfl hc rfl (Nat.le_of_ble_eq_true rfl) (Nat.le_of_ble_eq_true rfl) (by rw [ml43]; exact Nat.le_of_ble_eq_true rfl)
set_option maxRecDepth 20000 in
theorem i95_78 : ex_ X d 95 78 [v0, v1, v2, v3, v4] [.int x] h Q = Q (some (.int x)) h := ex_ret (show mx_at 95 78 = some (.ireturn, 1) by decide +kernel) (mx_retI rt95)
set_option maxRecDepth 20000 in
theorem i95_79 : ex_ X d 95 79 [v0, v1, v2, v3, .ref a] [] h Q = ex_ X d 95 81 [v0, v1, v2, v3, .ref a] [.ref a] h Q := ex_nx (show mx_at 95 79 = some (.aload 4, 2) by decide +kernel) rfl
set_option maxRecDepth 20000 in
theorem i95_81 : ex_ X d 95 81 [v0, v1, v2, .int x, v4] [w0] h Q = ex_ X d 95 82 [v0, v1, v2, .int x, v4] [.int x, w0] h Q := ex_nx (show mx_at 95 81 = some (.iload_n 3, 1) by decide +kernel) rfl
set_option maxRecDepth 20000 in
theorem i95_82 : ex_ X d 95 82 [.ref a, v1, v2, v3, v4] [w0, w1] h Q = ex_ X d 95 83 [.ref a, v1, v2, v3, v4] [.ref a, w0, w1] h Q := ex_nx (show mx_at 95 82 = some (.aload_n 0, 1) by decide +kernel) rfl
set_option maxRecDepth 20000 in
theorem i95_83 : ex_ X d 95 83 [v0, v1, v2, v3, v4] [.ref a, w0, w1] h Q = (gk_ h a 9 [(11, 0)] = true ∧ ex_ X d 95 86 [v0, v1, v2, v3, v4] [gv_ h a 9, w0, w1] h Q) := R_getf (show mx_at 95 83 = some (.getfield 41, 3) by decide +kernel) (mx_fdo ow95 fd110041)
set_option maxRecDepth 20000 in
theorem i95_86_c0 (hc : co_ h a = some 0) : ex_ X (d + 1) 95 86 [v0, v1, v2, v3, v4] [.ref a1, .int x0, .ref a] h Q = ev_ X d 2 [.ref a, .int x0, .ref a1] h (fun r h' => ex_ X (d + 1) 95 89 [v0, v1, v2, v3, v4] (r.toList ++ []) h' Q) := R_vir (show mx_at 95 86 = some (.invokevirtual 252, 3) by decide +kernel) (mx_clk ow95 cc11_252) (Nat.le_of_ble_eq_true rfl) rfl rfl hc rfl (Nat.le_of_ble_eq_true rfl) (Nat.le_of_ble_eq_true rfl) (by rw [ml2]; exact Nat.le_of_ble_eq_true rfl)
set_option maxRecDepth 20000 in
theorem i95_86_c1 (hc : co_ h a = some 1) : ex_ X (d + 1) 95 86 [v0, v1, v2, v3, v4] [.ref a1, .int x0, .ref a] h Q = ev_ X d 44 [.ref a, .int x0, .ref a1] h (fun r h' => ex_ X (d + 1) 95 89 [v0, v1, v2, v3, v4] (r.toList ++ []) h' Q) := R_vir (show mx_at 95 86 = some (.invokevirtual 252, 3) by decide +kernel) (mx_clk ow95 cc11_252) (Nat.le_of_ble_eq_true rfl) rfl rfl hc rfl (Nat.le_of_ble_eq_true rfl) (Nat.le_of_ble_eq_true rfl) (by rw [ml44]; exact Nat.le_of_ble_eq_true rfl)
set_option maxRecDepth 20000 in
theorem i95_86_c2 (hc : co_ h a = some 2) : ex_ X (d + 1) 95 86 [v0, v1, v2, v3, v4] [.ref a1, .int x0, .ref a] h Q = ev_ X d 44 [.ref a, .int x0, .ref a1] h (fun r h' => ex_ X (d + 1) 95 89 [v0, v1, v2, v3, v4] (r.toList ++ []) h' Q) := R_vir (show mx_at 95 86 = some (.invokevirtual 252, 3) by decide +kernel) (mx_clk ow95 cc11_252) (Nat.le_of_ble_eq_true rfl) rfl rfl hc rfl (Nat.le_of_ble_eq_true rfl) (Nat.le_of_ble_eq_true rfl) (by rw [ml44]; exact Nat.le_of_ble_eq_true rfl)
set_option maxRecDepth 20000 in
theorem i95_86_c4 (hc : co_ h a = some 4) : ex_ X (d + 1) 95 86 [v0, v1, v2, v3, v4] [.ref a1, .int x0, .ref a] h Q = ev_ X d 33 [.ref a, .int x0, .ref a1] h (fun r h' => ex_ X (d + 1) 95 89 [v0, v1, v2, v3, v4] (r.toList ++ []) h' Q) := R_vir (show mx_at 95 86 = some (.invokevirtual 252, 3) by decide +kernel) (mx_clk ow95 cc11_252) (Nat.le_of_ble_eq_true rfl) rfl rfl hc rfl (Nat.le_of_ble_eq_true rfl) (Nat.le_of_ble_eq_true rfl) (by rw [ml33]; exact Nat.le_of_ble_eq_true rfl)
set_option maxRecDepth 20000 in
theorem i95_86_c6 (hc : co_ h a = some 6) : ex_ X (d + 1) 95 86 [v0, v1, v2, v3, v4] [.ref a1, .int x0, .ref a] h Q = ev_ X d 44 [.ref a, .int x0, .ref a1] h (fun r h' => ex_ X (d + 1) 95 89 [v0, v1, v2, v3, v4] (r.toList ++ []) h' Q) := R_vir (show mx_at 95 86 = some (.invokevirtual 252, 3) by decide +kernel) (mx_clk ow95 cc11_252) (Nat.le_of_ble_eq_true rfl) rfl rfl hc rfl (Nat.le_of_ble_eq_true rfl) (Nat.le_of_ble_eq_true rfl) (by rw [ml44]; exact Nat.le_of_ble_eq_true rfl)
set_option maxRecDepth 20000 in
theorem i95_86_c8 (hc : co_ h a = some 8) : ex_ X (d + 1) 95 86 [v0, v1, v2, v3, v4] [.ref a1, .int x0, .ref a] h Q = ev_ X d 44 [.ref a, .int x0, .ref a1] h (fun r h' => ex_ X (d + 1) 95 89 [v0, v1, v2, v3, v4] (r.toList ++ []) h' Q) := R_vir (show mx_at 95 86 = some (.invokevirtual 252, 3) by decide +kernel) (mx_clk ow95 cc11_252) (Nat.le_of_ble_eq_true rfl) rfl rfl hc rfl (Nat.le_of_ble_eq_true rfl) (Nat.le_of_ble_eq_true rfl) (by rw [ml44]; exact Nat.le_of_ble_eq_true rfl)
set_option maxRecDepth 20000 in
theorem i95_86_c9 (hc : co_ h a = some 9) : ex_ X (d + 1) 95 86 [v0, v1, v2, v3, v4] [.ref a1, .int x0, .ref a] h Q = ev_ X d 44 [.ref a, .int x0, .ref a1] h (fun r h' => ex_ X (d + 1) 95 89 [v0, v1, v2, v3, v4] (r.toList ++ []) h' Q) := R_vir (show mx_at 95 86 = some (.invokevirtual 252, 3) by decide +kernel) (mx_clk ow95 cc11_252) (Nat.le_of_ble_eq_true rfl) rfl rfl hc rfl (Nat.le_of_ble_eq_true rfl) (Nat.le_of_ble_eq_true rfl) (by rw [ml44]; exact Nat.le_of_ble_eq_true rfl)
set_option maxRecDepth 20000 in
theorem i95_89 : ex_ X d 95 89 [v0, v1, v2, v3, v4] [.int x] h Q = Q (some (.int x)) h := ex_ret (show mx_at 95 89 = some (.ireturn, 1) by decide +kernel) (mx_retI rt95)
set_option maxRecDepth 20000 in
theorem i95_90 : ex_ X d 95 90 [v0, v1, v2, v3, .ref a] [] h Q = ex_ X d 95 92 [v0, v1, v2, v3, .ref a] [.ref a] h Q := ex_nx (show mx_at 95 90 = some (.aload 4, 2) by decide +kernel) rfl
set_option maxRecDepth 20000 in
theorem i95_92 : ex_ X d 95 92 [v0, v1, v2, .int x, v4] [w0] h Q = ex_ X d 95 93 [v0, v1, v2, .int x, v4] [.int x, w0] h Q := ex_nx (show mx_at 95 92 = some (.iload_n 3, 1) by decide +kernel) rfl
set_option maxRecDepth 20000 in
theorem i95_93 : ex_ X d 95 93 [.ref a, v1, v2, v3, v4] [w0, w1] h Q = ex_ X d 95 94 [.ref a, v1, v2, v3, v4] [.ref a, w0, w1] h Q := ex_nx (show mx_at 95 93 = some (.aload_n 0, 1) by decide +kernel) rfl
set_option maxRecDepth 20000 in
theorem i95_94 : ex_ X d 95 94 [v0, v1, v2, v3, v4] [.ref a, w0, w1] h Q = (gk_ h a 9 [(11, 0)] = true ∧ ex_ X d 95 97 [v0, v1, v2, v3, v4] [gv_ h a 9, w0, w1] h Q) := R_getf (show mx_at 95 94 = some (.getfield 41, 3) by decide +kernel) (mx_fdo ow95 fd110041)
set_option maxRecDepth 20000 in
theorem i95_97_c0 (hc : co_ h a = some 0) : ex_ X (d + 1) 95 97 [v0, v1, v2, v3, v4] [.ref a1, .int x0, .ref a] h Q = ev_ X d 45 [.ref a, .int x0, .ref a1] h (fun r h' => ex_ X (d + 1) 95 100 [v0, v1, v2, v3, v4] (r.toList ++ []) h' Q) := R_vir (show mx_at 95 97 = some (.invokevirtual 255, 3) by decide +kernel) (mx_clk ow95 cc11_255) (Nat.le_of_ble_eq_true rfl) rfl rfl hc rfl (Nat.le_of_ble_eq_true rfl) (Nat.le_of_ble_eq_true rfl) (by rw [ml45]; exact Nat.le_of_ble_eq_true rfl)
set_option maxRecDepth 20000 in
theorem i95_97_c1 (hc : co_ h a = some 1) : ex_ X (d + 1) 95 97 [v0, v1, v2, v3, v4] [.ref a1, .int x0, .ref a] h Q = ev_ X d 45 [.ref a, .int x0, .ref a1] h (fun r h' => ex_ X (d + 1) 95 100 [v0, v1, v2, v3, v4] (r.toList ++ []) h' Q) := R_vir (show mx_at 95 97 = some (.invokevirtual 255, 3) by decide +kernel) (mx_clk ow95 cc11_255) (Nat.le_of_ble_eq_true rfl) rfl rfl hc rfl (Nat.le_of_ble_eq_true rfl) (Nat.le_of_ble_eq_true rfl) (by rw [ml45]; exact Nat.le_of_ble_eq_true rfl)
set_option maxRecDepth 20000 in
theorem i95_97_c2 (hc : co_ h a = some 2) : ex_ X (d + 1) 95 97 [v0, v1, v2, v3, v4] [.ref a1, .int x0, .ref a] h Q = ev_ X d 8 [.ref a, .int x0, .ref a1] h (fun r h' => ex_ X (d + 1) 95 100 [v0, v1, v2, v3, v4] (r.toList ++ []) h' Q) := R_vir (show mx_at 95 97 = some (.invokevirtual 255, 3) by decide +kernel) (mx_clk ow95 cc11_255) (Nat.le_of_ble_eq_true rfl) rfl rfl hc rfl (Nat.le_of_ble_eq_true rfl) (Nat.le_of_ble_eq_true rfl) (by rw [ml8]; exact Nat.le_of_ble_eq_true rfl)
set_option maxRecDepth 20000 in
theorem i95_97_c4 (hc : co_ h a = some 4) : ex_ X (d + 1) 95 97 [v0, v1, v2, v3, v4] [.ref a1, .int x0, .ref a] h Q = ev_ X d 45 [.ref a, .int x0, .ref a1] h (fun r h' => ex_ X (d + 1) 95 100 [v0, v1, v2, v3, v4] (r.toList ++ []) h' Q) := R_vir (show mx_at 95 97 = some (.invokevirtual 255, 3) by decide +kernel) (mx_clk ow95 cc11_255) (Nat.le_of_ble_eq_true rfl) rfl rfl hc rfl (Nat.le_of_ble_eq_true rfl) (Nat.le_of_ble_eq_true rfl) (by rw [ml45]; exact Nat.le_of_ble_eq_true rfl)
set_option maxRecDepth 20000 in
theorem i95_97_c6 (hc : co_ h a = some 6) : ex_ X (d + 1) 95 97 [v0, v1, v2, v3, v4] [.ref a1, .int x0, .ref a] h Q = ev_ X d 45 [.ref a, .int x0, .ref a1] h (fun r h' => ex_ X (d + 1) 95 100 [v0, v1, v2, v3, v4] (r.toList ++ []) h' Q) := R_vir (show mx_at 95 97 = some (.invokevirtual 255, 3) by decide +kernel) (mx_clk ow95 cc11_255) (Nat.le_of_ble_eq_true rfl) rfl rfl hc rfl (Nat.le_of_ble_eq_true rfl) (Nat.le_of_ble_eq_true rfl) (by rw [ml45]; exact Nat.le_of_ble_eq_true rfl)
set_option maxRecDepth 20000 in
theorem i95_97_c8 (hc : co_ h a = some 8) : ex_ X (d + 1) 95 97 [v0, v1, v2, v3, v4] [.ref a1, .int x0, .ref a] h Q = ev_ X d 45 [.ref a, .int x0, .ref a1] h (fun r h' => ex_ X (d + 1) 95 100 [v0, v1, v2, v3, v4] (r.toList ++ []) h' Q) := R_vir (show mx_at 95 97 = some (.invokevirtual 255, 3) by decide +kernel) (mx_clk ow95 cc11_255) (Nat.le_of_ble_eq_true rfl) rfl rfl hc rfl (Nat.le_of_ble_eq_true rfl) (Nat.le_of_ble_eq_true rfl) (by rw [ml45]; exact Nat.le_of_ble_eq_true rfl)
set_option maxRecDepth 20000 in
theorem i95_97_c9 (hc : co_ h a = some 9) : ex_ X (d + 1) 95 97 [v0, v1, v2, v3, v4] [.ref a1, .int x0, .ref a] h Q = ev_ X d 57 [.ref a, .int x0, .ref a1] h (fun r h' => ex_ X (d + 1) 95 100 [v0, v1, v2, v3, v4] (r.toList ++ []) h' Q) := R_vir (show mx_at 95 97 = some (.invokevirtual 255, 3) by decide +kernel) (mx_clk ow95 cc11_255) (Nat.le_of_ble_eq_true rfl) rfl rfl hc rfl (Nat.le_of_ble_eq_true rfl) (Nat.le_of_ble_eq_true rfl) (by rw [ml57]; exact Nat.le_of_ble_eq_true rfl)
set_option maxRecDepth 20000 in
theorem i95_100 : ex_ X d 95 100 [v0, v1, v2, v3, v4] [.int x] h Q = Q (some (.int x)) h := ex_ret (show mx_at 95 100 = some (.ireturn, 1) by decide +kernel) (mx_retI rt95)
set_option maxRecDepth 20000 in
theorem i95_101 : ex_ X d 95 101 [v0, v1, v2, v3, .ref a] [] h Q = ex_ X d 95 103 [v0, v1, v2, v3, .ref a] [.ref a] h Q := ex_nx (show mx_at 95 101 = some (.aload 4, 2) by decide +kernel) rfl
set_option maxRecDepth 20000 in
theorem i95_103 : ex_ X d 95 103 [v0, v1, v2, .int x, v4] [w0] h Q = ex_ X d 95 104 [v0, v1, v2, .int x, v4] [.int x, w0] h Q := ex_nx (show mx_at 95 103 = some (.iload_n 3, 1) by decide +kernel) rfl
set_option maxRecDepth 20000 in
theorem i95_104 : ex_ X d 95 104 [.ref a, v1, v2, v3, v4] [w0, w1] h Q = ex_ X d 95 105 [.ref a, v1, v2, v3, v4] [.ref a, w0, w1] h Q := ex_nx (show mx_at 95 104 = some (.aload_n 0, 1) by decide +kernel) rfl
set_option maxRecDepth 20000 in
theorem i95_105 : ex_ X d 95 105 [v0, v1, v2, v3, v4] [.ref a, w0, w1] h Q = (gk_ h a 9 [(11, 0)] = true ∧ ex_ X d 95 108 [v0, v1, v2, v3, v4] [gv_ h a 9, w0, w1] h Q) := R_getf (show mx_at 95 105 = some (.getfield 41, 3) by decide +kernel) (mx_fdo ow95 fd110041)
set_option maxRecDepth 20000 in
theorem i95_108_c0 (hc : co_ h a = some 0) : ex_ X (d + 1) 95 108 [v0, v1, v2, v3, v4] [.ref a1, .int x0, .ref a] h Q = ev_ X d 46 [.ref a, .int x0, .ref a1] h (fun r h' => ex_ X (d + 1) 95 111 [v0, v1, v2, v3, v4] (r.toList ++ []) h' Q) := R_vir (show mx_at 95 108 = some (.invokevirtual 258, 3) by decide +kernel) (mx_clk ow95 cc11_258) (Nat.le_of_ble_eq_true rfl) rfl rfl hc rfl (Nat.le_of_ble_eq_true rfl) (Nat.le_of_ble_eq_true rfl) (by rw [ml46]; exact Nat.le_of_ble_eq_true rfl)
set_option maxRecDepth 20000 in
theorem i95_108_c1 (hc : co_ h a = some 1) : ex_ X (d + 1) 95 108 [v0, v1, v2, v3, v4] [.ref a1, .int x0, .ref a] h Q = ev_ X d 5 [.ref a, .int x0, .ref a1] h (fun r h' => ex_ X (d + 1) 95 111 [v0, v1, v2, v3, v4] (r.toList ++ []) h' Q) := R_vir (show mx_at 95 108 = some (.invokevirtual 258, 3) by decide +kernel) (mx_clk ow95 cc11_258) (Nat.le_of_ble_eq_true rfl) rfl rfl hc rfl (Nat.le_of_ble_eq_true rfl) (Nat.le_of_ble_eq_true rfl) (by rw [ml5]; exact Nat.le_of_ble_eq_true rfl)
set_option maxRecDepth 20000 in
theorem i95_108_c2 (hc : co_ h a = some 2) : ex_ X (d + 1) 95 108 [v0, v1, v2, v3, v4] [.ref a1, .int x0, .ref a] h Q = ev_ X d 46 [.ref a, .int x0, .ref a1] h (fun r h' => ex_ X (d + 1) 95 111 [v0, v1, v2, v3, v4] (r.toList ++ []) h' Q) := R_vir (show mx_at 95 108 = some (.invokevirtual 258, 3) by decide +kernel) (mx_clk ow95 cc11_258) (Nat.le_of_ble_eq_true rfl) rfl rfl hc rfl (Nat.le_of_ble_eq_true rfl) (Nat.le_of_ble_eq_true rfl) (by rw [ml46]; exact Nat.le_of_ble_eq_true rfl)
set_option maxRecDepth 20000 in
theorem i95_108_c4 (hc : co_ h a = some 4) : ex_ X (d + 1) 95 108 [v0, v1, v2, v3, v4] [.ref a1, .int x0, .ref a] h Q = ev_ X d 34 [.ref a, .int x0, .ref a1] h (fun r h' => ex_ X (d + 1) 95 111 [v0, v1, v2, v3, v4] (r.toList ++ []) h' Q) := R_vir (show mx_at 95 108 = some (.invokevirtual 258, 3) by decide +kernel) (mx_clk ow95 cc11_258) (Nat.le_of_ble_eq_true rfl) rfl rfl hc rfl (Nat.le_of_ble_eq_true rfl) (Nat.le_of_ble_eq_true rfl) (by rw [ml34]; exact Nat.le_of_ble_eq_true rfl)
set_option maxRecDepth 20000 in
theorem i95_108_c6 (hc : co_ h a = some 6) : ex_ X (d + 1) 95 108 [v0, v1, v2, v3, v4] [.ref a1, .int x0, .ref a] h Q = ev_ X d 46 [.ref a, .int x0, .ref a1] h (fun r h' => ex_ X (d + 1) 95 111 [v0, v1, v2, v3, v4] (r.toList ++ []) h' Q) := R_vir (show mx_at 95 108 = some (.invokevirtual 258, 3) by decide +kernel) (mx_clk ow95 cc11_258) (Nat.le_of_ble_eq_true rfl) rfl rfl hc rfl (Nat.le_of_ble_eq_true rfl) (Nat.le_of_ble_eq_true rfl) (by rw [ml46]; exact Nat.le_of_ble_eq_true rfl)
set_option maxRecDepth 20000 in
theorem i95_108_c8 (hc : co_ h a = some 8) : ex_ X (d + 1) 95 108 [v0, v1, v2, v3, v4] [.ref a1, .int x0, .ref a] h Q = ev_ X d 46 [.ref a, .int x0, .ref a1] h (fun r h' => ex_ X (d + 1) 95 111 [v0, v1, v2, v3, v4] (r.toList ++ []) h' Q) := R_vir (show mx_at 95 108 = some (.invokevirtual 258, 3) by decide +kernel) (mx_clk ow95 cc11_258) (Nat.le_of_ble_eq_true rfl) rfl rfl hc rfl (Nat.le_of_ble_eq_true rfl) (Nat.le_of_ble_eq_true rfl) (by rw [ml46]; exact Nat.le_of_ble_eq_true rfl)
set_option maxRecDepth 20000 in
theorem i95_108_c9 (hc : co_ h a = some 9) : ex_ X (d + 1) 95 108 [v0, v1, v2, v3, v4] [.ref a1, .int x0, .ref a] h Q = ev_ X d 5 [.ref a, .int x0, .ref a1] h (fun r h' => ex_ X (d + 1) 95 111 [v0, v1, v2, v3, v4] (r.toList ++ []) h' Q) := R_vir (show mx_at 95 108 = some (.invokevirtual 258, 3) by decide +kernel) (mx_clk ow95 cc11_258) (Nat.le_of_ble_eq_true rfl) rfl rfl hc rfl (Nat.le_of_ble_eq_true rfl) (Nat.le_of_ble_eq_true rfl) (by rw [ml5]; exact Nat.le_of_ble_eq_true rfl)
set_option maxRecDepth 20000 in
theorem i95_111 : ex_ X d 95 111 [v0, v1, v2, v3, v4] [.int x] h Q = Q (some (.int x)) h := ex_ret (show mx_at 95 111 = some (.ireturn, 1) by decide +kernel) (mx_retI rt95)
theorem i95_e : ev_ X d 95 [.ref a, .int x0, .int x1, .int x2] h Q = ex_ X d 95 0 [.ref a, .int x0, .int x1, .int x2, .double 0] [] h Q := by rw [ev_, ml95]; rfl
-- 96 X11_trace
set_option maxRecDepth 20000 in
theorem i96_0 : ex_ X d 96 0 [v0, .int x] [] h Q = ex_ X d 96 1 [v0, .int x] [.int x] h Q := ex_nx (show mx_at 96 0 = some (.iload_n 1, 1) by decide +kernel) rfl
set_option maxRecDepth 20000 in
theorem i96_1 : ex_ X d 96 1 [v0, v1] [w0] h Q = ex_ X d 96 2 [v0, v1] [.int 0, w0] h Q := R_iconst (show mx_at 96 1 = some (.iconst 0, 1) by decide +kernel) (by decide)
set_option maxRecDepth 20000 in
theorem i96_2 : ex_ X d 96 2 [.ref a, v1] [w0, w1] h Q = ex_ X d 96 3 [.ref a, v1] [.ref a, w0, w1] h Q := ex_nx (show mx_at 96 2 = some (.aload_n 0, 1) by decide +kernel) rfl
set_option maxRecDepth 20000 in
theorem i96_3 : ex_ X d 96 3 [v0, v1] [.ref a, w0, w1] h Q = (gk_ h a 9 [(11, 0)] = true ∧ ex_ X d 96 6 [v0, v1] [gv_ h a 9, w0, w1] h Q) := R_getf (show mx_at 96 3 = some (.getfield 41, 3) by decide +kernel) (mx_fdo ow96 fd110041)
set_option maxRecDepth 20000 in
theorem i96_6 : ex_ X d 96 6 [v0, v1] [.ref a, w0, w1] h Q = (gk_ h a 1 [(5, 0)] = true ∧ ex_ X d 96 9 [v0, v1] [gv_ h a 1, w0, w1] h Q) := R_getf (show mx_at 96 6 = some (.getfield 176, 3) by decide +kernel) (mx_fdo ow96 fd110176)
set_option maxRecDepth 20000 in
theorem i96_9 : ex_ X d 96 9 [v0, v1] [w0, w1, w2] h Q = ex_ X d 96 10 [v0, v1] [.int 1, w0, w1, w2] h Q := R_iconst (show mx_at 96 9 = some (.iconst 1, 1) by decide +kernel) (by decide)
set_option maxRecDepth 20000 in
theorem i96_10 : ex_ X d 96 10 [v0, v1] [.int y, .int x, w0, w1] h Q = ex_ X d 96 11 [v0, v1] [.int (x - y), w0, w1] h Q := ex_nx (show mx_at 96 10 = some (.isub, 1) by decide +kernel) rfl
set_option maxRecDepth 20000 in
theorem i96_11 : ex_ X (d + 1) 96 11 [v0, v1] [.int x2, .int x1, .int x0] h Q = ev_ X d 107 [.int x0, .int x1, .int x2] h (fun r h' => ex_ X (d + 1) 96 14 [v0, v1] (r.toList ++ []) h' Q) := R_stat (show mx_at 96 11 = some (.invokestatic 68, 3) by decide +kernel) (mx_clk ow96 cc11_68) (Nat.le_of_ble_eq_true rfl) rfl rfl (Nat.le_of_ble_eq_true rfl) ml107 (Nat.le_of_ble_eq_true rfl)
set_option maxRecDepth 20000 in
theorem i96_14 : ex_ X d 96 14 [v0, v1] [.int x] h Q = if ¬ x = 0 then ex_ X d 96 23 [v0, v1] [] h Q else ex_ X d 96 17 [v0, v1] [] h Q := (R_br (show mx_at 96 14 = some (.ifCond .ne 9, 3) by decide +kernel) rfl rfl).trans mx_ite
set_option maxRecDepth 20000 in
theorem i96_17 : ex_ X d 96 17 [.ref a, v1] [] h Q = ex_ X d 96 18 [.ref a, v1] [.ref a] h Q := ex_nx (show mx_at 96 17 = some (.aload_n 0, 1) by decide +kernel) rfl
set_option maxRecDepth 20000 in
theorem i96_18 : ex_ X d 96 18 [v0, v1] [w0] h Q = ex_ X d 96 19 [v0, v1] [.int 2, w0] h Q := R_iconst (show mx_at 96 18 = some (.iconst 2, 1) by decide +kernel) (by decide)
set_option maxRecDepth 20000 in
theorem i96_19 (hc : co_ h a = some 11) : ex_ X (d + 1) 96 19 [v0, v1] [.int x0, .ref a] h Q = ev_ X d 106 [.ref a, .int x0] h (fun r h' => ex_ X (d + 1) 96 22 [v0, v1] (r.toList ++ []) h' Q) := R_vir (show mx_at 96 19 = some (.invokevirtual 72, 3) by decide +kernel) (mx_clk ow96 cc11_72) (Nat.le_of_ble_eq_true rfl) rfl rfl hc rfl (Nat.le_of_ble_eq_true rfl) (Nat.le_of_ble_eq_true rfl) (by rw [ml106]; exact Nat.le_of_ble_eq_true rfl)
set_option maxRecDepth 20000 in
theorem i96_22 : ex_ X d 96 22 [v0, v1] [.int x] h Q = Q (some (.int x)) h := ex_ret (show mx_at 96 22 = some (.ireturn, 1) by decide +kernel) (mx_retI rt96)
set_option maxRecDepth 20000 in
theorem i96_23 : ex_ X d 96 23 [.ref a, v1] [] h Q = ex_ X d 96 24 [.ref a, v1] [.ref a] h Q := ex_nx (show mx_at 96 23 = some (.aload_n 0, 1) by decide +kernel) rfl
set_option maxRecDepth 20000 in
theorem i96_24 : ex_ X d 96 24 [v0, v1] [.ref a] h Q = (gk_ h a 9 [(11, 0)] = true ∧ ex_ X d 96 27 [v0, v1] [gv_ h a 9] h Q) := R_getf (show mx_at 96 24 = some (.getfield 41, 3) by decide +kernel) (mx_fdo ow96 fd110041)
set_option maxRecDepth 20000 in
theorem i96_27 : ex_ X d 96 27 [v0, v1] [.ref a] h Q = (gk_ h a 0 [(5, 0)] = true ∧ ex_ X d 96 30 [v0, v1] [gv_ h a 0] h Q) := R_getf (show mx_at 96 27 = some (.getfield 261, 3) by decide +kernel) (mx_fdo ow96 fd110261)
set_option maxRecDepth 20000 in
theorem i96_30 : ex_ X d 96 30 [v0, .int x] [w0] h Q = ex_ X d 96 31 [v0, .int x] [.int x, w0] h Q := ex_nx (show mx_at 96 30 = some (.iload_n 1, 1) by decide +kernel) rfl
set_option maxRecDepth 20000 in
theorem i96_31 : ex_ X d 96 31 [v0, v1] [.int i, .ref a] h Q = (ik_ h a i = true ∧ ex_ X d 96 32 [v0, v1] [.int (ia_ h a i)] h Q) := R_iald (show mx_at 96 31 = some (.iaload, 1) by decide +kernel)
set_option maxRecDepth 20000 in
theorem i96_32 : ex_ X d 96 32 [v0, v1] [.int x] h Q = Q (some (.int x)) h := ex_ret (show mx_at 96 32 = some (.ireturn, 1) by decide +kernel) (mx_retI rt96)
theorem i96_e : ev_ X d 96 [.ref a, .int x0] h Q = ex_ X d 96 0 [.ref a, .int x0] [] h Q := by rw [ev_, ml96]; rfl
-- 97 X11_sheet
set_option maxRecDepth 20000 in
theorem i97_0 : ex_ X d 97 0 [v0, .int x, v2, v3] [] h Q = ex_ X d 97 1 [v0, .int x, v2, v3] [.int x] h Q := ex_nx (show mx_at 97 0 = some (.iload_n 1, 1) by decide +kernel) rfl
set_option maxRecDepth 20000 in
theorem i97_1 : ex_ X (d + 1) 97 1 [v0, v1, v2, v3] [.int x0] h Q = ev_ X d 110 [.int x0] h (fun r h' => ex_ X (d + 1) 97 4 [v0, v1, v2, v3] (r.toList ++ []) h' Q) := R_stat (show mx_at 97 1 = some (.invokestatic 152, 3) by decide +kernel) (mx_clk ow97 cc11_152) (Nat.le_of_ble_eq_true rfl) rfl rfl (Nat.le_of_ble_eq_true rfl) ml110 (Nat.le_of_ble_eq_true rfl)
set_option maxRecDepth 20000 in
theorem i97_4 : ex_ X d 97 4 [v0, v1, v2, v3] [.int x] h Q = if x = 0 then ex_ X d 97 14 [v0, v1, v2, v3] [] h Q else ex_ X d 97 7 [v0, v1, v2, v3] [] h Q := (R_br (show mx_at 97 4 = some (.ifCond .eq 10, 3) by decide +kernel) rfl rfl).trans mx_ite
set_option maxRecDepth 20000 in
theorem i97_7 : ex_ X d 97 7 [v0, v1, .int x, v3] [] h Q = ex_ X d 97 8 [v0, v1, .int x, v3] [.int x] h Q := ex_nx (show mx_at 97 7 = some (.iload_n 2, 1) by decide +kernel) rfl
set_option maxRecDepth 20000 in
theorem i97_8 : ex_ X (d + 1) 97 8 [v0, v1, v2, v3] [.int x0] h Q = ev_ X d 113 [.int x0] h (fun r h' => ex_ X (d + 1) 97 11 [v0, v1, v2, v3] (r.toList ++ []) h' Q) := R_stat (show mx_at 97 8 = some (.invokestatic 262, 3) by decide +kernel) (mx_clk ow97 cc11_262) (Nat.le_of_ble_eq_true rfl) rfl rfl (Nat.le_of_ble_eq_true rfl) ml113 (Nat.le_of_ble_eq_true rfl)
set_option maxRecDepth 20000 in
theorem i97_11 : ex_ X d 97 11 [v0, v1, v2, v3] [.int x] h Q = if ¬ x = 0 then ex_ X d 97 20 [v0, v1, v2, v3] [] h Q else ex_ X d 97 14 [v0, v1, v2, v3] [] h Q := (R_br (show mx_at 97 11 = some (.ifCond .ne 9, 3) by decide +kernel) rfl rfl).trans mx_ite
set_option maxRecDepth 20000 in
theorem i97_14 : ex_ X d 97 14 [.ref a, v1, v2, v3] [] h Q = ex_ X d 97 15 [.ref a, v1, v2, v3] [.ref a] h Q := ex_nx (show mx_at 97 14 = some (.aload_n 0, 1) by decide +kernel) rfl
set_option maxRecDepth 20000 in
theorem i97_15 : ex_ X d 97 15 [v0, v1, v2, v3] [w0] h Q = ex_ X d 97 16 [v0, v1, v2, v3] [.int 1, w0] h Q := R_iconst (show mx_at 97 15 = some (.iconst 1, 1) by decide +kernel) (by decide)
set_option maxRecDepth 20000 in
theorem i97_16 (hc : co_ h a = some 11) : ex_ X (d + 1) 97 16 [v0, v1, v2, v3] [.int x0, .ref a] h Q = ev_ X d 106 [.ref a, .int x0] h (fun r h' => ex_ X (d + 1) 97 19 [v0, v1, v2, v3] (r.toList ++ []) h' Q) := R_vir (show mx_at 97 16 = some (.invokevirtual 72, 3) by decide +kernel) (mx_clk ow97 cc11_72) (Nat.le_of_ble_eq_true rfl) rfl rfl hc rfl (Nat.le_of_ble_eq_true rfl) (Nat.le_of_ble_eq_true rfl) (by rw [ml106]; exact Nat.le_of_ble_eq_true rfl)
set_option maxRecDepth 20000 in
theorem i97_19 : ex_ X d 97 19 [v0, v1, v2, v3] [.int x] h Q = Q (some (.int x)) h := ex_ret (show mx_at 97 19 = some (.ireturn, 1) by decide +kernel) (mx_retI rt97)
set_option maxRecDepth 20000 in
theorem i97_20 : ex_ X d 97 20 [v0, v1, .int x, v3] [] h Q = ex_ X d 97 21 [v0, v1, .int x, v3] [.int x] h Q := ex_nx (show mx_at 97 20 = some (.iload_n 2, 1) by decide +kernel) rfl
set_option maxRecDepth 20000 in
theorem i97_21 : ex_ X d 97 21 [v0, v1, v2, v3] [.int x] h Q = if x = 0 then ex_ X d 97 34 [v0, v1, v2, v3] [] h Q else ex_ X d 97 24 [v0, v1, v2, v3] [] h Q := (R_br (show mx_at 97 21 = some (.ifCond .eq 13, 3) by decide +kernel) rfl rfl).trans mx_ite
set_option maxRecDepth 20000 in
theorem i97_24 : ex_ X d 97 24 [v0, v1, v2, .int x] [] h Q = ex_ X d 97 25 [v0, v1, v2, .int x] [.int x] h Q := ex_nx (show mx_at 97 24 = some (.iload_n 3, 1) by decide +kernel) rfl
set_option maxRecDepth 20000 in
theorem i97_25 : ex_ X d 97 25 [v0, v1, v2, v3] [.int x] h Q = if 0 ≤ x then ex_ X d 97 34 [v0, v1, v2, v3] [] h Q else ex_ X d 97 28 [v0, v1, v2, v3] [] h Q := (R_br (show mx_at 97 25 = some (.ifCond .ge 9, 3) by decide +kernel) rfl rfl).trans mx_ite
set_option maxRecDepth 20000 in
theorem i97_28 : ex_ X d 97 28 [.ref a, v1, v2, v3] [] h Q = ex_ X d 97 29 [.ref a, v1, v2, v3] [.ref a] h Q := ex_nx (show mx_at 97 28 = some (.aload_n 0, 1) by decide +kernel) rfl
set_option maxRecDepth 20000 in
theorem i97_29 : ex_ X d 97 29 [v0, v1, v2, v3] [w0] h Q = ex_ X d 97 30 [v0, v1, v2, v3] [.int 3, w0] h Q := R_iconst (show mx_at 97 29 = some (.iconst 3, 1) by decide +kernel) (by decide)
set_option maxRecDepth 20000 in
theorem i97_30 (hc : co_ h a = some 11) : ex_ X (d + 1) 97 30 [v0, v1, v2, v3] [.int x0, .ref a] h Q = ev_ X d 106 [.ref a, .int x0] h (fun r h' => ex_ X (d + 1) 97 33 [v0, v1, v2, v3] (r.toList ++ []) h' Q) := R_vir (show mx_at 97 30 = some (.invokevirtual 72, 3) by decide +kernel) (mx_clk ow97 cc11_72) (Nat.le_of_ble_eq_true rfl) rfl rfl hc rfl (Nat.le_of_ble_eq_true rfl) (Nat.le_of_ble_eq_true rfl) (by rw [ml106]; exact Nat.le_of_ble_eq_true rfl)
set_option maxRecDepth 20000 in
theorem i97_33 : ex_ X d 97 33 [v0, v1, v2, v3] [.int x] h Q = Q (some (.int x)) h := ex_ret (show mx_at 97 33 = some (.ireturn, 1) by decide +kernel) (mx_retI rt97)
set_option maxRecDepth 20000 in
theorem i97_34 : ex_ X d 97 34 [v0, v1, .int x, v3] [] h Q = ex_ X d 97 35 [v0, v1, .int x, v3] [.int x] h Q := ex_nx (show mx_at 97 34 = some (.iload_n 2, 1) by decide +kernel) rfl
set_option maxRecDepth 20000 in
theorem i97_35 : ex_ X d 97 35 [v0, v1, v2, v3] [.int x] h Q = if x = 0 then ex_ X d 97 50 [v0, v1, v2, v3] [] h Q else ex_ X d 97 38 [v0, v1, v2, v3] [] h Q := (R_br (show mx_at 97 35 = some (.ifCond .eq 15, 3) by decide +kernel) rfl rfl).trans mx_ite
set_option maxRecDepth 20000 in
theorem i97_38 : ex_ X d 97 38 [v0, v1, v2, .int x] [] h Q = ex_ X d 97 39 [v0, v1, v2, .int x] [.int x] h Q := ex_nx (show mx_at 97 38 = some (.iload_n 3, 1) by decide +kernel) rfl
set_option maxRecDepth 20000 in
theorem i97_39 : ex_ X d 97 39 [v0, v1, v2, v3] [w0] h Q = ex_ X d 97 41 [v0, v1, v2, v3] [.int 40, w0] h Q := R_bipush (show mx_at 97 39 = some (.bipush 40, 2) by decide +kernel) (by decide)
set_option maxRecDepth 20000 in
theorem i97_41 : ex_ X d 97 41 [v0, v1, v2, v3] [.int y, .int x] h Q = if x ≤ y then ex_ X d 97 50 [v0, v1, v2, v3] [] h Q else ex_ X d 97 44 [v0, v1, v2, v3] [] h Q := (R_br (show mx_at 97 41 = some (.if_icmp .le 9, 3) by decide +kernel) rfl rfl).trans mx_ite
set_option maxRecDepth 20000 in
theorem i97_44 : ex_ X d 97 44 [.ref a, v1, v2, v3] [] h Q = ex_ X d 97 45 [.ref a, v1, v2, v3] [.ref a] h Q := ex_nx (show mx_at 97 44 = some (.aload_n 0, 1) by decide +kernel) rfl
set_option maxRecDepth 20000 in
theorem i97_45 : ex_ X d 97 45 [v0, v1, v2, v3] [w0] h Q = ex_ X d 97 46 [v0, v1, v2, v3] [.int 1, w0] h Q := R_iconst (show mx_at 97 45 = some (.iconst 1, 1) by decide +kernel) (by decide)
set_option maxRecDepth 20000 in
theorem i97_46 (hc : co_ h a = some 11) : ex_ X (d + 1) 97 46 [v0, v1, v2, v3] [.int x0, .ref a] h Q = ev_ X d 106 [.ref a, .int x0] h (fun r h' => ex_ X (d + 1) 97 49 [v0, v1, v2, v3] (r.toList ++ []) h' Q) := R_vir (show mx_at 97 46 = some (.invokevirtual 72, 3) by decide +kernel) (mx_clk ow97 cc11_72) (Nat.le_of_ble_eq_true rfl) rfl rfl hc rfl (Nat.le_of_ble_eq_true rfl) (Nat.le_of_ble_eq_true rfl) (by rw [ml106]; exact Nat.le_of_ble_eq_true rfl)
set_option maxRecDepth 20000 in
theorem i97_49 : ex_ X d 97 49 [v0, v1, v2, v3] [.int x] h Q = Q (some (.int x)) h := ex_ret (show mx_at 97 49 = some (.ireturn, 1) by decide +kernel) (mx_retI rt97)
set_option maxRecDepth 20000 in
theorem i97_50 : ex_ X d 97 50 [.ref a, v1, v2, v3] [] h Q = ex_ X d 97 51 [.ref a, v1, v2, v3] [.ref a] h Q := ex_nx (show mx_at 97 50 = some (.aload_n 0, 1) by decide +kernel) rfl
set_option maxRecDepth 20000 in
theorem i97_51 : ex_ X d 97 51 [v0, v1, v2, v3] [.ref a] h Q = (gk_ h a 10 [(11, 0)] = true ∧ ex_ X d 97 54 [v0, v1, v2, v3] [gv_ h a 10] h Q) := R_getf (show mx_at 97 51 = some (.getfield 46, 3) by decide +kernel) (mx_fdo ow97 fd110046)
set_option maxRecDepth 20000 in
theorem i97_54 : ex_ X d 97 54 [v0, .int x, v2, v3] [w0] h Q = ex_ X d 97 55 [v0, .int x, v2, v3] [.int x, w0] h Q := ex_nx (show mx_at 97 54 = some (.iload_n 1, 1) by decide +kernel) rfl
set_option maxRecDepth 20000 in
theorem i97_55 : ex_ X d 97 55 [v0, v1, v2, v3] [.int i, .ref a] h Q = (rk_ h a i = true ∧ ex_ X d 97 56 [v0, v1, v2, v3] [mx_vr (ra_ h a i)] h Q) := R_aald (show mx_at 97 55 = some (.aaload, 1) by decide +kernel)
set_option maxRecDepth 20000 in
theorem i97_56 : ex_ X d 97 56 [v0, v1, .int x, v3] [w0] h Q = ex_ X d 97 57 [v0, v1, .int x, v3] [.int x, w0] h Q := ex_nx (show mx_at 97 56 = some (.iload_n 2, 1) by decide +kernel) rfl
set_option maxRecDepth 20000 in
theorem i97_57 : ex_ X d 97 57 [v0, v1, .int x, v3] [w0, w1] h Q = ex_ X d 97 58 [v0, v1, .int x, v3] [.int x, w0, w1] h Q := ex_nx (show mx_at 97 57 = some (.iload_n 2, 1) by decide +kernel) rfl
set_option maxRecDepth 20000 in
theorem i97_58 : ex_ X d 97 58 [v0, v1, v2, v3] [.int x, w0, w1] h Q = if ¬ x = 0 then ex_ X d 97 65 [v0, v1, v2, v3] [w0, w1] h Q else ex_ X d 97 61 [v0, v1, v2, v3] [w0, w1] h Q := (R_br (show mx_at 97 58 = some (.ifCond .ne 7, 3) by decide +kernel) rfl rfl).trans mx_ite
set_option maxRecDepth 20000 in
theorem i97_61 : ex_ X d 97 61 [v0, v1, v2, v3] [w0, w1] h Q = ex_ X d 97 62 [v0, v1, v2, v3] [.int 0, w0, w1] h Q := R_iconst (show mx_at 97 61 = some (.iconst 0, 1) by decide +kernel) (by decide)
set_option maxRecDepth 20000 in
theorem i97_62 : ex_ X d 97 62 [v0, v1, v2, v3] [w0, w1, w2] h Q = ex_ X d 97 66 [v0, v1, v2, v3] [w0, w1, w2] h Q := R_to (show mx_at 97 62 = some (.goto 4, 3) by decide +kernel) rfl rfl
set_option maxRecDepth 20000 in
theorem i97_65 : ex_ X d 97 65 [v0, v1, v2, .int x] [w0, w1] h Q = ex_ X d 97 66 [v0, v1, v2, .int x] [.int x, w0, w1] h Q := ex_nx (show mx_at 97 65 = some (.iload_n 3, 1) by decide +kernel) rfl
set_option maxRecDepth 20000 in
theorem i97_66 (hc : co_ h a = some 7) : ex_ X (d + 1) 97 66 [v0, v1, v2, v3] [.int x1, .int x0, .ref a] h Q = ev_ X d 49 [.ref a, .int x0, .int x1] h (fun r h' => ex_ X (d + 1) 97 69 [v0, v1, v2, v3] (r.toList ++ []) h' Q) := R_vir (show mx_at 97 66 = some (.invokevirtual 265, 3) by decide +kernel) (mx_clk ow97 cc11_265) (Nat.le_of_ble_eq_true rfl) rfl rfl hc rfl (Nat.le_of_ble_eq_true rfl) (Nat.le_of_ble_eq_true rfl) (by rw [ml49]; exact Nat.le_of_ble_eq_true rfl)
set_option maxRecDepth 20000 in
theorem i97_69 : ex_ X d 97 69 [v0, v1, v2, v3] [] h Q = ex_ X d 97 70 [v0, v1, v2, v3] [.int 1] h Q := R_iconst (show mx_at 97 69 = some (.iconst 1, 1) by decide +kernel) (by decide)
set_option maxRecDepth 20000 in
theorem i97_70 : ex_ X d 97 70 [v0, v1, v2, v3] [.int x] h Q = Q (some (.int x)) h := ex_ret (show mx_at 97 70 = some (.ireturn, 1) by decide +kernel) (mx_retI rt97)
theorem i97_e : ev_ X d 97 [.ref a, .int x0, .int x1, .int x2] h Q = ex_ X d 97 0 [.ref a, .int x0, .int x1, .int x2] [] h Q := by rw [ev_, ml97]; rfl
-- 98 X11_put
set_option maxRecDepth 20000 in
theorem i98_0 : ex_ X d 98 0 [v0, .int x, v2, v3, v4] [] h Q = ex_ X d 98 1 [v0, .int x, v2, v3, v4] [.int x] h Q := ex_nx (show mx_at 98 0 = some (.iload_n 1, 1) by decide +kernel) rfl
set_option maxRecDepth 20000 in
theorem i98_1 : ex_ X (d + 1) 98 1 [v0, v1, v2, v3, v4] [.int x0] h Q = ev_ X d 110 [.int x0] h (fun r h' => ex_ X (d + 1) 98 4 [v0, v1, v2, v3, v4] (r.toList ++ []) h' Q) := R_stat (show mx_at 98 1 = some (.invokestatic 152, 3) by decide +kernel) (mx_clk ow98 cc11_152) (Nat.le_of_ble_eq_true rfl) rfl rfl (Nat.le_of_ble_eq_true rfl) ml110 (Nat.le_of_ble_eq_true rfl)
set_option maxRecDepth 20000 in
theorem i98_4 : ex_ X d 98 4 [v0, v1, v2, v3, v4] [.int x] h Q = if ¬ x = 0 then ex_ X d 98 13 [v0, v1, v2, v3, v4] [] h Q else ex_ X d 98 7 [v0, v1, v2, v3, v4] [] h Q := (R_br (show mx_at 98 4 = some (.ifCond .ne 9, 3) by decide +kernel) rfl rfl).trans mx_ite
set_option maxRecDepth 20000 in
theorem i98_7 : ex_ X d 98 7 [.ref a, v1, v2, v3, v4] [] h Q = ex_ X d 98 8 [.ref a, v1, v2, v3, v4] [.ref a] h Q := ex_nx (show mx_at 98 7 = some (.aload_n 0, 1) by decide +kernel) rfl
set_option maxRecDepth 20000 in
theorem i98_8 : ex_ X d 98 8 [v0, v1, v2, v3, v4] [w0] h Q = ex_ X d 98 9 [v0, v1, v2, v3, v4] [.int 1, w0] h Q := R_iconst (show mx_at 98 8 = some (.iconst 1, 1) by decide +kernel) (by decide)
set_option maxRecDepth 20000 in
theorem i98_9 (hc : co_ h a = some 11) : ex_ X (d + 1) 98 9 [v0, v1, v2, v3, v4] [.int x0, .ref a] h Q = ev_ X d 106 [.ref a, .int x0] h (fun r h' => ex_ X (d + 1) 98 12 [v0, v1, v2, v3, v4] (r.toList ++ []) h' Q) := R_vir (show mx_at 98 9 = some (.invokevirtual 72, 3) by decide +kernel) (mx_clk ow98 cc11_72) (Nat.le_of_ble_eq_true rfl) rfl rfl hc rfl (Nat.le_of_ble_eq_true rfl) (Nat.le_of_ble_eq_true rfl) (by rw [ml106]; exact Nat.le_of_ble_eq_true rfl)
set_option maxRecDepth 20000 in
theorem i98_12 : ex_ X d 98 12 [v0, v1, v2, v3, v4] [.int x] h Q = Q (some (.int x)) h := ex_ret (show mx_at 98 12 = some (.ireturn, 1) by decide +kernel) (mx_retI rt98)
set_option maxRecDepth 20000 in
theorem i98_13 : ex_ X d 98 13 [.ref a, v1, v2, v3, v4] [] h Q = ex_ X d 98 14 [.ref a, v1, v2, v3, v4] [.ref a] h Q := ex_nx (show mx_at 98 13 = some (.aload_n 0, 1) by decide +kernel) rfl
set_option maxRecDepth 20000 in
theorem i98_14 : ex_ X d 98 14 [v0, v1, v2, v3, v4] [.ref a] h Q = (gk_ h a 10 [(11, 0)] = true ∧ ex_ X d 98 17 [v0, v1, v2, v3, v4] [gv_ h a 10] h Q) := R_getf (show mx_at 98 14 = some (.getfield 46, 3) by decide +kernel) (mx_fdo ow98 fd110046)
set_option maxRecDepth 20000 in
theorem i98_17 : ex_ X d 98 17 [v0, .int x, v2, v3, v4] [w0] h Q = ex_ X d 98 18 [v0, .int x, v2, v3, v4] [.int x, w0] h Q := ex_nx (show mx_at 98 17 = some (.iload_n 1, 1) by decide +kernel) rfl
set_option maxRecDepth 20000 in
theorem i98_18 : ex_ X d 98 18 [v0, v1, v2, v3, v4] [.int i, .ref a] h Q = (rk_ h a i = true ∧ ex_ X d 98 19 [v0, v1, v2, v3, v4] [mx_vr (ra_ h a i)] h Q) := R_aald (show mx_at 98 18 = some (.aaload, 1) by decide +kernel)
set_option maxRecDepth 20000 in
theorem i98_19 : ex_ X d 98 19 [v0, v1, v2, v3, v4] [.ref a] h Q = (mx_nl v3 = true ∧ ex_ X d 98 21 [v0, v1, v2, v3, .ref a] [] h Q) := mx_t1 (R_st (ok := mx_isA) (n := 4) (w := 2) (show mx_at 98 19 = some (.astore 4, 2) by decide +kernel) (fun _ _ => rfl) (Nat.le_of_ble_eq_true rfl)) rfl
set_option maxRecDepth 20000 in
theorem i98_21 : ex_ X d 98 21 [v0, v1, v2, v3, .ref a] [] h Q = ex_ X d 98 23 [v0, v1, v2, v3, .ref a] [.ref a] h Q := ex_nx (show mx_at 98 21 = some (.aload 4, 2) by decide +kernel) rfl
set_option maxRecDepth 20000 in
theorem i98_23 (hc : co_ h a = some 7) : ex_ X (d + 1) 98 23 [v0, v1, v2, v3, v4] [.ref a] h Q = ev_ X d 48 [.ref a] h (fun r h' => ex_ X (d + 1) 98 26 [v0, v1, v2, v3, v4] (r.toList ++ []) h' Q) := R_vir (show mx_at 98 23 = some (.invokevirtual 155, 3) by decide +kernel) (mx_clk ow98 cc11_155) (Nat.le_of_ble_eq_true rfl) rfl rfl hc rfl (Nat.le_of_ble_eq_true rfl) (Nat.le_of_ble_eq_true rfl) (by rw [ml48]; exact Nat.le_of_ble_eq_true rfl)
set_option maxRecDepth 20000 in
theorem i98_26 : ex_ X d 98 26 [v0, v1, v2, v3, v4] [.int x] h Q = if x = 0 then ex_ X d 98 35 [v0, v1, v2, v3, v4] [] h Q else ex_ X d 98 29 [v0, v1, v2, v3, v4] [] h Q := (R_br (show mx_at 98 26 = some (.ifCond .eq 9, 3) by decide +kernel) rfl rfl).trans mx_ite
set_option maxRecDepth 20000 in
theorem i98_29 : ex_ X d 98 29 [.ref a, v1, v2, v3, v4] [] h Q = ex_ X d 98 30 [.ref a, v1, v2, v3, v4] [.ref a] h Q := ex_nx (show mx_at 98 29 = some (.aload_n 0, 1) by decide +kernel) rfl
set_option maxRecDepth 20000 in
theorem i98_30 : ex_ X d 98 30 [v0, v1, v2, v3, v4] [w0] h Q = ex_ X d 98 31 [v0, v1, v2, v3, v4] [.int 2, w0] h Q := R_iconst (show mx_at 98 30 = some (.iconst 2, 1) by decide +kernel) (by decide)
set_option maxRecDepth 20000 in
theorem i98_31 (hc : co_ h a = some 11) : ex_ X (d + 1) 98 31 [v0, v1, v2, v3, v4] [.int x0, .ref a] h Q = ev_ X d 106 [.ref a, .int x0] h (fun r h' => ex_ X (d + 1) 98 34 [v0, v1, v2, v3, v4] (r.toList ++ []) h' Q) := R_vir (show mx_at 98 31 = some (.invokevirtual 72, 3) by decide +kernel) (mx_clk ow98 cc11_72) (Nat.le_of_ble_eq_true rfl) rfl rfl hc rfl (Nat.le_of_ble_eq_true rfl) (Nat.le_of_ble_eq_true rfl) (by rw [ml106]; exact Nat.le_of_ble_eq_true rfl)
set_option maxRecDepth 20000 in
theorem i98_34 : ex_ X d 98 34 [v0, v1, v2, v3, v4] [.int x] h Q = Q (some (.int x)) h := ex_ret (show mx_at 98 34 = some (.ireturn, 1) by decide +kernel) (mx_retI rt98)
set_option maxRecDepth 20000 in
theorem i98_35 : ex_ X d 98 35 [v0, v1, .int x, v3, v4] [] h Q = ex_ X d 98 36 [v0, v1, .int x, v3, v4] [.int x] h Q := ex_nx (show mx_at 98 35 = some (.iload_n 2, 1) by decide +kernel) rfl
set_option maxRecDepth 20000 in
theorem i98_36 : ex_ X d 98 36 [v0, v1, v2, v3, v4] [w0] h Q = ex_ X d 98 37 [v0, v1, v2, v3, v4] [.int 0, w0] h Q := R_iconst (show mx_at 98 36 = some (.iconst 0, 1) by decide +kernel) (by decide)
set_option maxRecDepth 20000 in
theorem i98_37 : ex_ X d 98 37 [v0, v1, v2, v3, .ref a] [w0, w1] h Q = ex_ X d 98 39 [v0, v1, v2, v3, .ref a] [.ref a, w0, w1] h Q := ex_nx (show mx_at 98 37 = some (.aload 4, 2) by decide +kernel) rfl
set_option maxRecDepth 20000 in
theorem i98_39 : ex_ X d 98 39 [v0, v1, v2, v3, v4] [.ref a, w0, w1] h Q = (gk_ h a 2 [(7, 0)] = true ∧ ex_ X d 98 42 [v0, v1, v2, v3, v4] [gv_ h a 2, w0, w1] h Q) := R_getf (show mx_at 98 39 = some (.getfield 161, 3) by decide +kernel) (mx_fdo ow98 fd110161)
set_option maxRecDepth 20000 in
theorem i98_42 : ex_ X d 98 42 [v0, v1, v2, v3, v4] [w0, w1, w2] h Q = ex_ X d 98 43 [v0, v1, v2, v3, v4] [.int 1, w0, w1, w2] h Q := R_iconst (show mx_at 98 42 = some (.iconst 1, 1) by decide +kernel) (by decide)
set_option maxRecDepth 20000 in
theorem i98_43 : ex_ X d 98 43 [v0, v1, v2, v3, v4] [.int y, .int x, w0, w1] h Q = ex_ X d 98 44 [v0, v1, v2, v3, v4] [.int (x - y), w0, w1] h Q := ex_nx (show mx_at 98 43 = some (.isub, 1) by decide +kernel) rfl
set_option maxRecDepth 20000 in
theorem i98_44 : ex_ X (d + 1) 98 44 [v0, v1, v2, v3, v4] [.int x2, .int x1, .int x0] h Q = ev_ X d 107 [.int x0, .int x1, .int x2] h (fun r h' => ex_ X (d + 1) 98 47 [v0, v1, v2, v3, v4] (r.toList ++ []) h' Q) := R_stat (show mx_at 98 44 = some (.invokestatic 68, 3) by decide +kernel) (mx_clk ow98 cc11_68) (Nat.le_of_ble_eq_true rfl) rfl rfl (Nat.le_of_ble_eq_true rfl) ml107 (Nat.le_of_ble_eq_true rfl)
set_option maxRecDepth 20000 in
theorem i98_47 : ex_ X d 98 47 [v0, v1, v2, v3, v4] [.int x] h Q = if ¬ x = 0 then ex_ X d 98 56 [v0, v1, v2, v3, v4] [] h Q else ex_ X d 98 50 [v0, v1, v2, v3, v4] [] h Q := (R_br (show mx_at 98 47 = some (.ifCond .ne 9, 3) by decide +kernel) rfl rfl).trans mx_ite
set_option maxRecDepth 20000 in
theorem i98_50 : ex_ X d 98 50 [.ref a, v1, v2, v3, v4] [] h Q = ex_ X d 98 51 [.ref a, v1, v2, v3, v4] [.ref a] h Q := ex_nx (show mx_at 98 50 = some (.aload_n 0, 1) by decide +kernel) rfl
set_option maxRecDepth 20000 in
theorem i98_51 : ex_ X d 98 51 [v0, v1, v2, v3, v4] [w0] h Q = ex_ X d 98 52 [v0, v1, v2, v3, v4] [.int 1, w0] h Q := R_iconst (show mx_at 98 51 = some (.iconst 1, 1) by decide +kernel) (by decide)
set_option maxRecDepth 20000 in
theorem i98_52 (hc : co_ h a = some 11) : ex_ X (d + 1) 98 52 [v0, v1, v2, v3, v4] [.int x0, .ref a] h Q = ev_ X d 106 [.ref a, .int x0] h (fun r h' => ex_ X (d + 1) 98 55 [v0, v1, v2, v3, v4] (r.toList ++ []) h' Q) := R_vir (show mx_at 98 52 = some (.invokevirtual 72, 3) by decide +kernel) (mx_clk ow98 cc11_72) (Nat.le_of_ble_eq_true rfl) rfl rfl hc rfl (Nat.le_of_ble_eq_true rfl) (Nat.le_of_ble_eq_true rfl) (by rw [ml106]; exact Nat.le_of_ble_eq_true rfl)
set_option maxRecDepth 20000 in
theorem i98_55 : ex_ X d 98 55 [v0, v1, v2, v3, v4] [.int x] h Q = Q (some (.int x)) h := ex_ret (show mx_at 98 55 = some (.ireturn, 1) by decide +kernel) (mx_retI rt98)
set_option maxRecDepth 20000 in
theorem i98_56 : ex_ X d 98 56 [v0, v1, v2, v3, .ref a] [] h Q = ex_ X d 98 58 [v0, v1, v2, v3, .ref a] [.ref a] h Q := ex_nx (show mx_at 98 56 = some (.aload 4, 2) by decide +kernel) rfl
set_option maxRecDepth 20000 in
theorem i98_58 : ex_ X d 98 58 [v0, v1, .int x, v3, v4] [w0] h Q = ex_ X d 98 59 [v0, v1, .int x, v3, v4] [.int x, w0] h Q := ex_nx (show mx_at 98 58 = some (.iload_n 2, 1) by decide +kernel) rfl
set_option maxRecDepth 20000 in
theorem i98_59 : ex_ X d 98 59 [v0, v1, v2, .int x, v4] [w0, w1] h Q = ex_ X d 98 60 [v0, v1, v2, .int x, v4] [.int x, w0, w1] h Q := ex_nx (show mx_at 98 59 = some (.iload_n 3, 1) by decide +kernel) rfl
set_option maxRecDepth 20000 in
theorem i98_60 (hc : co_ h a = some 7) : ex_ X (d + 1) 98 60 [v0, v1, v2, v3, v4] [.int x1, .int x0, .ref a] h Q = ev_ X d 50 [.ref a, .int x0, .int x1] h (fun r h' => ex_ X (d + 1) 98 63 [v0, v1, v2, v3, v4] (r.toList ++ []) h' Q) := R_vir (show mx_at 98 60 = some (.invokevirtual 269, 3) by decide +kernel) (mx_clk ow98 cc11_269) (Nat.le_of_ble_eq_true rfl) rfl rfl hc rfl (Nat.le_of_ble_eq_true rfl) (Nat.le_of_ble_eq_true rfl) (by rw [ml50]; exact Nat.le_of_ble_eq_true rfl)
set_option maxRecDepth 20000 in
theorem i98_63 : ex_ X d 98 63 [v0, v1, v2, v3, v4] [] h Q = ex_ X d 98 64 [v0, v1, v2, v3, v4] [.int 1] h Q := R_iconst (show mx_at 98 63 = some (.iconst 1, 1) by decide +kernel) (by decide)
set_option maxRecDepth 20000 in
theorem i98_64 : ex_ X d 98 64 [v0, v1, v2, v3, v4] [.int x] h Q = Q (some (.int x)) h := ex_ret (show mx_at 98 64 = some (.ireturn, 1) by decide +kernel) (mx_retI rt98)
theorem i98_e : ev_ X d 98 [.ref a, .int x0, .int x1, .int x2] h Q = ex_ X d 98 0 [.ref a, .int x0, .int x1, .int x2, .double 0] [] h Q := by rw [ev_, ml98]; rfl
-- 99 X11_move
set_option maxRecDepth 20000 in
theorem i99_0 : ex_ X d 99 0 [v0, .int x, v2, v3, v4, v5, v6, v7] [] h Q = ex_ X d 99 1 [v0, .int x, v2, v3, v4, v5, v6, v7] [.int x] h Q := ex_nx (show mx_at 99 0 = some (.iload_n 1, 1) by decide +kernel) rfl
set_option maxRecDepth 20000 in
theorem i99_1 : ex_ X (d + 1) 99 1 [v0, v1, v2, v3, v4, v5, v6, v7] [.int x0] h Q = ev_ X d 110 [.int x0] h (fun r h' => ex_ X (d + 1) 99 4 [v0, v1, v2, v3, v4, v5, v6, v7] (r.toList ++ []) h' Q) := R_stat (show mx_at 99 1 = some (.invokestatic 152, 3) by decide +kernel) (mx_clk ow99 cc11_152) (Nat.le_of_ble_eq_true rfl) rfl rfl (Nat.le_of_ble_eq_true rfl) ml110 (Nat.le_of_ble_eq_true rfl)
set_option maxRecDepth 20000 in
theorem i99_4 : ex_ X d 99 4 [v0, v1, v2, v3, v4, v5, v6, v7] [.int x] h Q = if x = 0 then ex_ X d 99 14 [v0, v1, v2, v3, v4, v5, v6, v7] [] h Q else ex_ X d 99 7 [v0, v1, v2, v3, v4, v5, v6, v7] [] h Q := (R_br (show mx_at 99 4 = some (.ifCond .eq 10, 3) by decide +kernel) rfl rfl).trans mx_ite
set_option maxRecDepth 20000 in
theorem i99_7 : ex_ X d 99 7 [v0, v1, v2, .int x, v4, v5, v6, v7] [] h Q = ex_ X d 99 8 [v0, v1, v2, .int x, v4, v5, v6, v7] [.int x] h Q := ex_nx (show mx_at 99 7 = some (.iload_n 3, 1) by decide +kernel) rfl
set_option maxRecDepth 20000 in
theorem i99_8 : ex_ X (d + 1) 99 8 [v0, v1, v2, v3, v4, v5, v6, v7] [.int x0] h Q = ev_ X d 110 [.int x0] h (fun r h' => ex_ X (d + 1) 99 11 [v0, v1, v2, v3, v4, v5, v6, v7] (r.toList ++ []) h' Q) := R_stat (show mx_at 99 8 = some (.invokestatic 152, 3) by decide +kernel) (mx_clk ow99 cc11_152) (Nat.le_of_ble_eq_true rfl) rfl rfl (Nat.le_of_ble_eq_true rfl) ml110 (Nat.le_of_ble_eq_true rfl)
set_option maxRecDepth 20000 in
theorem i99_11 : ex_ X d 99 11 [v0, v1, v2, v3, v4, v5, v6, v7] [.int x] h Q = if ¬ x = 0 then ex_ X d 99 20 [v0, v1, v2, v3, v4, v5, v6, v7] [] h Q else ex_ X d 99 14 [v0, v1, v2, v3, v4, v5, v6, v7] [] h Q := (R_br (show mx_at 99 11 = some (.ifCond .ne 9, 3) by decide +kernel) rfl rfl).trans mx_ite
set_option maxRecDepth 20000 in
theorem i99_14 : ex_ X d 99 14 [.ref a, v1, v2, v3, v4, v5, v6, v7] [] h Q = ex_ X d 99 15 [.ref a, v1, v2, v3, v4, v5, v6, v7] [.ref a] h Q := ex_nx (show mx_at 99 14 = some (.aload_n 0, 1) by decide +kernel) rfl
set_option maxRecDepth 20000 in
theorem i99_15 : ex_ X d 99 15 [v0, v1, v2, v3, v4, v5, v6, v7] [w0] h Q = ex_ X d 99 16 [v0, v1, v2, v3, v4, v5, v6, v7] [.int 1, w0] h Q := R_iconst (show mx_at 99 15 = some (.iconst 1, 1) by decide +kernel) (by decide)
set_option maxRecDepth 20000 in
theorem i99_16 (hc : co_ h a = some 11) : ex_ X (d + 1) 99 16 [v0, v1, v2, v3, v4, v5, v6, v7] [.int x0, .ref a] h Q = ev_ X d 106 [.ref a, .int x0] h (fun r h' => ex_ X (d + 1) 99 19 [v0, v1, v2, v3, v4, v5, v6, v7] (r.toList ++ []) h' Q) := R_vir (show mx_at 99 16 = some (.invokevirtual 72, 3) by decide +kernel) (mx_clk ow99 cc11_72) (Nat.le_of_ble_eq_true rfl) rfl rfl hc rfl (Nat.le_of_ble_eq_true rfl) (Nat.le_of_ble_eq_true rfl) (by rw [ml106]; exact Nat.le_of_ble_eq_true rfl)
set_option maxRecDepth 20000 in
theorem i99_19 : ex_ X d 99 19 [v0, v1, v2, v3, v4, v5, v6, v7] [.int x] h Q = Q (some (.int x)) h := ex_ret (show mx_at 99 19 = some (.ireturn, 1) by decide +kernel) (mx_retI rt99)
set_option maxRecDepth 20000 in
theorem i99_20 : ex_ X d 99 20 [.ref a, v1, v2, v3, v4, v5, v6, v7] [] h Q = ex_ X d 99 21 [.ref a, v1, v2, v3, v4, v5, v6, v7] [.ref a] h Q := ex_nx (show mx_at 99 20 = some (.aload_n 0, 1) by decide +kernel) rfl
set_option maxRecDepth 20000 in
theorem i99_21 : ex_ X d 99 21 [v0, v1, v2, v3, v4, v5, v6, v7] [.ref a] h Q = (gk_ h a 10 [(11, 0)] = true ∧ ex_ X d 99 24 [v0, v1, v2, v3, v4, v5, v6, v7] [gv_ h a 10] h Q) := R_getf (show mx_at 99 21 = some (.getfield 46, 3) by decide +kernel) (mx_fdo ow99 fd110046)
set_option maxRecDepth 20000 in
theorem i99_24 : ex_ X d 99 24 [v0, .int x, v2, v3, v4, v5, v6, v7] [w0] h Q = ex_ X d 99 25 [v0, .int x, v2, v3, v4, v5, v6, v7] [.int x, w0] h Q := ex_nx (show mx_at 99 24 = some (.iload_n 1, 1) by decide +kernel) rfl
set_option maxRecDepth 20000 in
theorem i99_25 : ex_ X d 99 25 [v0, v1, v2, v3, v4, v5, v6, v7] [.int i, .ref a] h Q = (rk_ h a i = true ∧ ex_ X d 99 26 [v0, v1, v2, v3, v4, v5, v6, v7] [mx_vr (ra_ h a i)] h Q) := R_aald (show mx_at 99 25 = some (.aaload, 1) by decide +kernel)
set_option maxRecDepth 20000 in
theorem i99_26 : ex_ X d 99 26 [v0, v1, v2, v3, v4, v5, v6, v7] [.ref a] h Q = (mx_nl v5 = true ∧ ex_ X d 99 28 [v0, v1, v2, v3, v4, v5, .ref a, v7] [] h Q) := mx_t1 (R_st (ok := mx_isA) (n := 6) (w := 2) (show mx_at 99 26 = some (.astore 6, 2) by decide +kernel) (fun _ _ => rfl) (Nat.le_of_ble_eq_true rfl)) rfl
set_option maxRecDepth 20000 in
theorem i99_28 : ex_ X d 99 28 [.ref a, v1, v2, v3, v4, v5, v6, v7] [] h Q = ex_ X d 99 29 [.ref a, v1, v2, v3, v4, v5, v6, v7] [.ref a] h Q := ex_nx (show mx_at 99 28 = some (.aload_n 0, 1) by decide +kernel) rfl
set_option maxRecDepth 20000 in
theorem i99_29 : ex_ X d 99 29 [v0, v1, v2, v3, v4, v5, v6, v7] [.ref a] h Q = (gk_ h a 10 [(11, 0)] = true ∧ ex_ X d 99 32 [v0, v1, v2, v3, v4, v5, v6, v7] [gv_ h a 10] h Q) := R_getf (show mx_at 99 29 = some (.getfield 46, 3) by decide +kernel) (mx_fdo ow99 fd110046)
set_option maxRecDepth 20000 in
theorem i99_32 : ex_ X d 99 32 [v0, v1, v2, .int x, v4, v5, v6, v7] [w0] h Q = ex_ X d 99 33 [v0, v1, v2, .int x, v4, v5, v6, v7] [.int x, w0] h Q := ex_nx (show mx_at 99 32 = some (.iload_n 3, 1) by decide +kernel) rfl
set_option maxRecDepth 20000 in
theorem i99_33 : ex_ X d 99 33 [v0, v1, v2, v3, v4, v5, v6, v7] [.int i, .ref a] h Q = (rk_ h a i = true ∧ ex_ X d 99 34 [v0, v1, v2, v3, v4, v5, v6, v7] [mx_vr (ra_ h a i)] h Q) := R_aald (show mx_at 99 33 = some (.aaload, 1) by decide +kernel)
set_option maxRecDepth 20000 in
theorem i99_34 : ex_ X d 99 34 [v0, v1, v2, v3, v4, v5, v6, v7] [.ref a] h Q = (mx_nl v6 = true ∧ ex_ X d 99 36 [v0, v1, v2, v3, v4, v5, v6, .ref a] [] h Q) := mx_t1 (R_st (ok := mx_isA) (n := 7) (w := 2) (show mx_at 99 34 = some (.astore 7, 2) by decide +kernel) (fun _ _ => rfl) (Nat.le_of_ble_eq_true rfl)) rfl
set_option maxRecDepth 20000 in
theorem i99_36 : ex_ X d 99 36 [v0, v1, v2, v3, v4, v5, .ref a, v7] [] h Q = ex_ X d 99 38 [v0, v1, v2, v3, v4, v5, .ref a, v7] [.ref a] h Q := ex_nx (show mx_at 99 36 = some (.aload 6, 2) by decide +kernel) rfl
set_option maxRecDepth 20000 in
theorem i99_38 (hc : co_ h a = some 7) : ex_ X (d + 1) 99 38 [v0, v1, v2, v3, v4, v5, v6, v7] [.ref a] h Q = ev_ X d 48 [.ref a] h (fun r h' => ex_ X (d + 1) 99 41 [v0, v1, v2, v3, v4, v5, v6, v7] (r.toList ++ []) h' Q) := R_vir (show mx_at 99 38 = some (.invokevirtual 155, 3) by decide +kernel) (mx_clk ow99 cc11_155) (Nat.le_of_ble_eq_true rfl) rfl rfl hc rfl (Nat.le_of_ble_eq_true rfl) (Nat.le_of_ble_eq_true rfl) (by rw [ml48]; exact Nat.le_of_ble_eq_true rfl)
set_option maxRecDepth 20000 in
theorem i99_41 : ex_ X d 99 41 [v0, v1, v2, v3, v4, v5, v6, v7] [.int x] h Q = if ¬ x = 0 then ex_ X d 99 52 [v0, v1, v2, v3, v4, v5, v6, v7] [] h Q else ex_ X d 99 44 [v0, v1, v2, v3, v4, v5, v6, v7] [] h Q := (R_br (show mx_at 99 41 = some (.ifCond .ne 11, 3) by decide +kernel) rfl rfl).trans mx_ite
set_option maxRecDepth 20000 in
theorem i99_44 : ex_ X d 99 44 [v0, v1, v2, v3, v4, v5, v6, .ref a] [] h Q = ex_ X d 99 46 [v0, v1, v2, v3, v4, v5, v6, .ref a] [.ref a] h Q := ex_nx (show mx_at 99 44 = some (.aload 7, 2) by decide +kernel) rfl
set_option maxRecDepth 20000 in
theorem i99_46 (hc : co_ h a = some 7) : ex_ X (d + 1) 99 46 [v0, v1, v2, v3, v4, v5, v6, v7] [.ref a] h Q = ev_ X d 48 [.ref a] h (fun r h' => ex_ X (d + 1) 99 49 [v0, v1, v2, v3, v4, v5, v6, v7] (r.toList ++ []) h' Q) := R_vir (show mx_at 99 46 = some (.invokevirtual 155, 3) by decide +kernel) (mx_clk ow99 cc11_155) (Nat.le_of_ble_eq_true rfl) rfl rfl hc rfl (Nat.le_of_ble_eq_true rfl) (Nat.le_of_ble_eq_true rfl) (by rw [ml48]; exact Nat.le_of_ble_eq_true rfl)
set_option maxRecDepth 20000 in
theorem i99_49 : ex_ X d 99 49 [v0, v1, v2, v3, v4, v5, v6, v7] [.int x] h Q = if x = 0 then ex_ X d 99 58 [v0, v1, v2, v3, v4, v5, v6, v7] [] h Q else ex_ X d 99 52 [v0, v1, v2, v3, v4, v5, v6, v7] [] h Q := (R_br (show mx_at 99 49 = some (.ifCond .eq 9, 3) by decide +kernel) rfl rfl).trans mx_ite
set_option maxRecDepth 20000 in
theorem i99_52 : ex_ X d 99 52 [.ref a, v1, v2, v3, v4, v5, v6, v7] [] h Q = ex_ X d 99 53 [.ref a, v1, v2, v3, v4, v5, v6, v7] [.ref a] h Q := ex_nx (show mx_at 99 52 = some (.aload_n 0, 1) by decide +kernel) rfl
set_option maxRecDepth 20000 in
theorem i99_53 : ex_ X d 99 53 [v0, v1, v2, v3, v4, v5, v6, v7] [w0] h Q = ex_ X d 99 54 [v0, v1, v2, v3, v4, v5, v6, v7] [.int 2, w0] h Q := R_iconst (show mx_at 99 53 = some (.iconst 2, 1) by decide +kernel) (by decide)
set_option maxRecDepth 20000 in
theorem i99_54 (hc : co_ h a = some 11) : ex_ X (d + 1) 99 54 [v0, v1, v2, v3, v4, v5, v6, v7] [.int x0, .ref a] h Q = ev_ X d 106 [.ref a, .int x0] h (fun r h' => ex_ X (d + 1) 99 57 [v0, v1, v2, v3, v4, v5, v6, v7] (r.toList ++ []) h' Q) := R_vir (show mx_at 99 54 = some (.invokevirtual 72, 3) by decide +kernel) (mx_clk ow99 cc11_72) (Nat.le_of_ble_eq_true rfl) rfl rfl hc rfl (Nat.le_of_ble_eq_true rfl) (Nat.le_of_ble_eq_true rfl) (by rw [ml106]; exact Nat.le_of_ble_eq_true rfl)
set_option maxRecDepth 20000 in
theorem i99_57 : ex_ X d 99 57 [v0, v1, v2, v3, v4, v5, v6, v7] [.int x] h Q = Q (some (.int x)) h := ex_ret (show mx_at 99 57 = some (.ireturn, 1) by decide +kernel) (mx_retI rt99)
set_option maxRecDepth 20000 in
theorem i99_58 : ex_ X d 99 58 [v0, v1, v2, v3, v4, v5, .ref a, v7] [] h Q = ex_ X d 99 60 [v0, v1, v2, v3, v4, v5, .ref a, v7] [.ref a] h Q := ex_nx (show mx_at 99 58 = some (.aload 6, 2) by decide +kernel) rfl
set_option maxRecDepth 20000 in
theorem i99_60 : ex_ X d 99 60 [v0, v1, v2, v3, v4, v5, v6, v7] [.ref a] h Q = (gk_ h a 1 [(7, 0)] = true ∧ ex_ X d 99 63 [v0, v1, v2, v3, v4, v5, v6, v7] [gv_ h a 1] h Q) := R_getf (show mx_at 99 60 = some (.getfield 272, 3) by decide +kernel) (mx_fdo ow99 fd110272)
set_option maxRecDepth 20000 in
theorem i99_63 : ex_ X d 99 63 [v0, v1, v2, v3, v4, v5, v6, .ref a] [w0] h Q = ex_ X d 99 65 [v0, v1, v2, v3, v4, v5, v6, .ref a] [.ref a, w0] h Q := ex_nx (show mx_at 99 63 = some (.aload 7, 2) by decide +kernel) rfl
set_option maxRecDepth 20000 in
theorem i99_65 : ex_ X d 99 65 [v0, v1, v2, v3, v4, v5, v6, v7] [.ref a, w0] h Q = (gk_ h a 1 [(7, 0)] = true ∧ ex_ X d 99 68 [v0, v1, v2, v3, v4, v5, v6, v7] [gv_ h a 1, w0] h Q) := R_getf (show mx_at 99 65 = some (.getfield 272, 3) by decide +kernel) (mx_fdo ow99 fd110272)
set_option maxRecDepth 20000 in
theorem i99_68 : ex_ X d 99 68 [v0, v1, v2, v3, v4, v5, v6, v7] [.int y, .int x] h Q = if x = y then ex_ X d 99 77 [v0, v1, v2, v3, v4, v5, v6, v7] [] h Q else ex_ X d 99 71 [v0, v1, v2, v3, v4, v5, v6, v7] [] h Q := (R_br (show mx_at 99 68 = some (.if_icmp .eq 9, 3) by decide +kernel) rfl rfl).trans mx_ite
set_option maxRecDepth 20000 in
theorem i99_71 : ex_ X d 99 71 [.ref a, v1, v2, v3, v4, v5, v6, v7] [] h Q = ex_ X d 99 72 [.ref a, v1, v2, v3, v4, v5, v6, v7] [.ref a] h Q := ex_nx (show mx_at 99 71 = some (.aload_n 0, 1) by decide +kernel) rfl
set_option maxRecDepth 20000 in
theorem i99_72 : ex_ X d 99 72 [v0, v1, v2, v3, v4, v5, v6, v7] [w0] h Q = ex_ X d 99 73 [v0, v1, v2, v3, v4, v5, v6, v7] [.int 5, w0] h Q := R_iconst (show mx_at 99 72 = some (.iconst 5, 1) by decide +kernel) (by decide)
set_option maxRecDepth 20000 in
theorem i99_73 (hc : co_ h a = some 11) : ex_ X (d + 1) 99 73 [v0, v1, v2, v3, v4, v5, v6, v7] [.int x0, .ref a] h Q = ev_ X d 106 [.ref a, .int x0] h (fun r h' => ex_ X (d + 1) 99 76 [v0, v1, v2, v3, v4, v5, v6, v7] (r.toList ++ []) h' Q) := R_vir (show mx_at 99 73 = some (.invokevirtual 72, 3) by decide +kernel) (mx_clk ow99 cc11_72) (Nat.le_of_ble_eq_true rfl) rfl rfl hc rfl (Nat.le_of_ble_eq_true rfl) (Nat.le_of_ble_eq_true rfl) (by rw [ml106]; exact Nat.le_of_ble_eq_true rfl)
set_option maxRecDepth 20000 in
theorem i99_76 : ex_ X d 99 76 [v0, v1, v2, v3, v4, v5, v6, v7] [.int x] h Q = Q (some (.int x)) h := ex_ret (show mx_at 99 76 = some (.ireturn, 1) by decide +kernel) (mx_retI rt99)
set_option maxRecDepth 20000 in
theorem i99_77 : ex_ X d 99 77 [v0, v1, v2, v3, v4, v5, .ref a, v7] [] h Q = ex_ X d 99 79 [v0, v1, v2, v3, v4, v5, .ref a, v7] [.ref a] h Q := ex_nx (show mx_at 99 77 = some (.aload 6, 2) by decide +kernel) rfl
set_option maxRecDepth 20000 in
theorem i99_79 : ex_ X d 99 79 [v0, v1, .int x, v3, v4, v5, v6, v7] [w0] h Q = ex_ X d 99 80 [v0, v1, .int x, v3, v4, v5, v6, v7] [.int x, w0] h Q := ex_nx (show mx_at 99 79 = some (.iload_n 2, 1) by decide +kernel) rfl
set_option maxRecDepth 20000 in
theorem i99_80 : ex_ X d 99 80 [v0, v1, v2, v3, v4, .int x, v6, v7] [w0, w1] h Q = ex_ X d 99 82 [v0, v1, v2, v3, v4, .int x, v6, v7] [.int x, w0, w1] h Q := ex_nx (show mx_at 99 80 = some (.iload 5, 2) by decide +kernel) rfl
set_option maxRecDepth 20000 in
theorem i99_82 (hc : co_ h a = some 7) : ex_ X (d + 1) 99 82 [v0, v1, v2, v3, v4, v5, v6, v7] [.int x1, .int x0, .ref a] h Q = ev_ X d 51 [.ref a, .int x0, .int x1] h (fun r h' => ex_ X (d + 1) 99 85 [v0, v1, v2, v3, v4, v5, v6, v7] (r.toList ++ []) h' Q) := R_vir (show mx_at 99 82 = some (.invokevirtual 275, 3) by decide +kernel) (mx_clk ow99 cc11_275) (Nat.le_of_ble_eq_true rfl) rfl rfl hc rfl (Nat.le_of_ble_eq_true rfl) (Nat.le_of_ble_eq_true rfl) (by rw [ml51]; exact Nat.le_of_ble_eq_true rfl)
set_option maxRecDepth 20000 in
theorem i99_85 : ex_ X d 99 85 [v0, v1, v2, v3, v4, v5, v6, v7] [.int x] h Q = if x = 0 then ex_ X d 99 100 [v0, v1, v2, v3, v4, v5, v6, v7] [] h Q else ex_ X d 99 88 [v0, v1, v2, v3, v4, v5, v6, v7] [] h Q := (R_br (show mx_at 99 85 = some (.ifCond .eq 15, 3) by decide +kernel) rfl rfl).trans mx_ite
set_option maxRecDepth 20000 in
theorem i99_88 : ex_ X d 99 88 [v0, v1, v2, v3, v4, v5, v6, .ref a] [] h Q = ex_ X d 99 90 [v0, v1, v2, v3, v4, v5, v6, .ref a] [.ref a] h Q := ex_nx (show mx_at 99 88 = some (.aload 7, 2) by decide +kernel) rfl
set_option maxRecDepth 20000 in
theorem i99_90 : ex_ X d 99 90 [v0, v1, v2, v3, .int x, v5, v6, v7] [w0] h Q = ex_ X d 99 92 [v0, v1, v2, v3, .int x, v5, v6, v7] [.int x, w0] h Q := ex_nx (show mx_at 99 90 = some (.iload 4, 2) by decide +kernel) rfl
set_option maxRecDepth 20000 in
theorem i99_92 : ex_ X d 99 92 [v0, v1, v2, v3, v4, .int x, v6, v7] [w0, w1] h Q = ex_ X d 99 94 [v0, v1, v2, v3, v4, .int x, v6, v7] [.int x, w0, w1] h Q := ex_nx (show mx_at 99 92 = some (.iload 5, 2) by decide +kernel) rfl
set_option maxRecDepth 20000 in
theorem i99_94 (hc : co_ h a = some 7) : ex_ X (d + 1) 99 94 [v0, v1, v2, v3, v4, v5, v6, v7] [.int x1, .int x0, .ref a] h Q = ev_ X d 51 [.ref a, .int x0, .int x1] h (fun r h' => ex_ X (d + 1) 99 97 [v0, v1, v2, v3, v4, v5, v6, v7] (r.toList ++ []) h' Q) := R_vir (show mx_at 99 94 = some (.invokevirtual 275, 3) by decide +kernel) (mx_clk ow99 cc11_275) (Nat.le_of_ble_eq_true rfl) rfl rfl hc rfl (Nat.le_of_ble_eq_true rfl) (Nat.le_of_ble_eq_true rfl) (by rw [ml51]; exact Nat.le_of_ble_eq_true rfl)
set_option maxRecDepth 20000 in
theorem i99_97 : ex_ X d 99 97 [v0, v1, v2, v3, v4, v5, v6, v7] [.int x] h Q = if ¬ x = 0 then ex_ X d 99 106 [v0, v1, v2, v3, v4, v5, v6, v7] [] h Q else ex_ X d 99 100 [v0, v1, v2, v3, v4, v5, v6, v7] [] h Q := (R_br (show mx_at 99 97 = some (.ifCond .ne 9, 3) by decide +kernel) rfl rfl).trans mx_ite
set_option maxRecDepth 20000 in
theorem i99_100 : ex_ X d 99 100 [.ref a, v1, v2, v3, v4, v5, v6, v7] [] h Q = ex_ X d 99 101 [.ref a, v1, v2, v3, v4, v5, v6, v7] [.ref a] h Q := ex_nx (show mx_at 99 100 = some (.aload_n 0, 1) by decide +kernel) rfl
set_option maxRecDepth 20000 in
theorem i99_101 : ex_ X d 99 101 [v0, v1, v2, v3, v4, v5, v6, v7] [w0] h Q = ex_ X d 99 102 [v0, v1, v2, v3, v4, v5, v6, v7] [.int 1, w0] h Q := R_iconst (show mx_at 99 101 = some (.iconst 1, 1) by decide +kernel) (by decide)
set_option maxRecDepth 20000 in
theorem i99_102 (hc : co_ h a = some 11) : ex_ X (d + 1) 99 102 [v0, v1, v2, v3, v4, v5, v6, v7] [.int x0, .ref a] h Q = ev_ X d 106 [.ref a, .int x0] h (fun r h' => ex_ X (d + 1) 99 105 [v0, v1, v2, v3, v4, v5, v6, v7] (r.toList ++ []) h' Q) := R_vir (show mx_at 99 102 = some (.invokevirtual 72, 3) by decide +kernel) (mx_clk ow99 cc11_72) (Nat.le_of_ble_eq_true rfl) rfl rfl hc rfl (Nat.le_of_ble_eq_true rfl) (Nat.le_of_ble_eq_true rfl) (by rw [ml106]; exact Nat.le_of_ble_eq_true rfl)
set_option maxRecDepth 20000 in
theorem i99_105 : ex_ X d 99 105 [v0, v1, v2, v3, v4, v5, v6, v7] [.int x] h Q = Q (some (.int x)) h := ex_ret (show mx_at 99 105 = some (.ireturn, 1) by decide +kernel) (mx_retI rt99)
set_option maxRecDepth 20000 in
theorem i99_106 : ex_ X d 99 106 [v0, v1, v2, v3, v4, v5, .ref a, v7] [] h Q = ex_ X d 99 108 [v0, v1, v2, v3, v4, v5, .ref a, v7] [.ref a] h Q := ex_nx (show mx_at 99 106 = some (.aload 6, 2) by decide +kernel) rfl
set_option maxRecDepth 20000 in
theorem i99_108 : ex_ X d 99 108 [v0, v1, v2, v3, v4, v5, v6, v7] [.ref a] h Q = (gk_ h a 0 [(7, 0)] = true ∧ ex_ X d 99 111 [v0, v1, v2, v3, v4, v5, v6, v7] [gv_ h a 0] h Q) := R_getf (show mx_at 99 108 = some (.getfield 159, 3) by decide +kernel) (mx_fdo ow99 fd110159)
set_option maxRecDepth 20000 in
theorem i99_111 : ex_ X d 99 111 [v0, v1, .int x, v3, v4, v5, v6, v7] [w0] h Q = ex_ X d 99 112 [v0, v1, .int x, v3, v4, v5, v6, v7] [.int x, w0] h Q := ex_nx (show mx_at 99 111 = some (.iload_n 2, 1) by decide +kernel) rfl
set_option maxRecDepth 20000 in
theorem i99_112 : ex_ X d 99 112 [v0, v1, v2, v3, v4, v5, v6, .ref a] [w0, w1] h Q = ex_ X d 99 114 [v0, v1, v2, v3, v4, v5, v6, .ref a] [.ref a, w0, w1] h Q := ex_nx (show mx_at 99 112 = some (.aload 7, 2) by decide +kernel) rfl
set_option maxRecDepth 20000 in
theorem i99_114 : ex_ X d 99 114 [v0, v1, v2, v3, v4, v5, v6, v7] [.ref a, w0, w1] h Q = (gk_ h a 0 [(7, 0)] = true ∧ ex_ X d 99 117 [v0, v1, v2, v3, v4, v5, v6, v7] [gv_ h a 0, w0, w1] h Q) := R_getf (show mx_at 99 114 = some (.getfield 159, 3) by decide +kernel) (mx_fdo ow99 fd110159)
set_option maxRecDepth 20000 in
theorem i99_117 : ex_ X d 99 117 [v0, v1, v2, v3, .int x, v5, v6, v7] [w0, w1, w2] h Q = ex_ X d 99 119 [v0, v1, v2, v3, .int x, v5, v6, v7] [.int x, w0, w1, w2] h Q := ex_nx (show mx_at 99 117 = some (.iload 4, 2) by decide +kernel) rfl
set_option maxRecDepth 20000 in
theorem i99_119 : ex_ X d 99 119 [v0, v1, v2, v3, v4, .int x, v6, v7] [w0, w1, w2, w3] h Q = ex_ X d 99 121 [v0, v1, v2, v3, v4, .int x, v6, v7] [.int x, w0, w1, w2, w3] h Q := ex_nx (show mx_at 99 119 = some (.iload 5, 2) by decide +kernel) rfl
set_option maxRecDepth 20000 in
theorem i99_121 : ex_ X (d + 1) 99 121 [v0, v1, v2, v3, v4, v5, v6, v7] [.int x, .int y, .ref a, .int z, .ref b] h Q = (ck_ h a b z y x = true ∧ ex_ X (d + 1) 99 124 [v0, v1, v2, v3, v4, v5, v6, v7] [] (cs_ h a b z y x) Q) := R_copy (show mx_at 99 121 = some (.invokestatic 277, 3) by decide +kernel) (mx_clk ow99 cc11_277) (Nat.le_of_ble_eq_true rfl)
set_option maxRecDepth 20000 in
theorem i99_124 : ex_ X d 99 124 [v0, v1, v2, v3, v4, .int x, v6, v7] [] h Q = ex_ X d 99 126 [v0, v1, v2, v3, v4, .int x, v6, v7] [.int x] h Q := ex_nx (show mx_at 99 124 = some (.iload 5, 2) by decide +kernel) rfl
set_option maxRecDepth 20000 in
theorem i99_126 : ex_ X d 99 126 [v0, v1, v2, v3, v4, v5, v6, v7] [.int x] h Q = Q (some (.int x)) h := ex_ret (show mx_at 99 126 = some (.ireturn, 1) by decide +kernel) (mx_retI rt99)
theorem i99_e : ev_ X d 99 [.ref a, .int x0, .int x1, .int x2, .int x3, .int x4] h Q = ex_ X d 99 0 [.ref a, .int x0, .int x1, .int x2, .int x3, .int x4, .double 0, .double 0] [] h Q := by rw [ev_, ml99]; rfl
-- 100 X11_image
set_option maxRecDepth 20000 in
theorem i100_0 : ex_ X d 100 0 [.ref a] [] h Q = ex_ X d 100 1 [.ref a] [.ref a] h Q := ex_nx (show mx_at 100 0 = some (.aload_n 0, 1) by decide +kernel) rfl
set_option maxRecDepth 20000 in
theorem i100_1 : ex_ X d 100 1 [v0] [.ref a] h Q = (gk_ h a 4 [(11, 0)] = true ∧ ex_ X d 100 4 [v0] [gv_ h a 4] h Q) := R_getf (show mx_at 100 1 = some (.getfield 32, 3) by decide +kernel) (mx_fdo ow100 fd110032)
set_option maxRecDepth 20000 in
theorem i100_4 : ex_ X d 100 4 [.ref a] [w0] h Q = ex_ X d 100 5 [.ref a] [.ref a, w0] h Q := ex_nx (show mx_at 100 4 = some (.aload_n 0, 1) by decide +kernel) rfl
set_option maxRecDepth 20000 in
theorem i100_5 : ex_ X d 100 5 [v0] [.ref a, w0] h Q = (gk_ h a 0 [(11, 0)] = true ∧ ex_ X d 100 8 [v0] [gv_ h a 0, w0] h Q) := R_getf (show mx_at 100 5 = some (.getfield 12, 3) by decide +kernel) (mx_fdo ow100 fd110012)
set_option maxRecDepth 20000 in
theorem i100_8 (hc : co_ h a = some 3) : ex_ X (d + 1) 100 8 [v0] [.ref a0, .ref a] h Q = ev_ X d 11 [.ref a, .ref a0] h (fun r h' => ex_ X (d + 1) 100 11 [v0] (r.toList ++ []) h' Q) := R_vir (show mx_at 100 8 = some (.invokevirtual 230, 3) by decide +kernel) (mx_clk ow100 cc11_230) (Nat.le_of_ble_eq_true rfl) rfl rfl hc rfl (Nat.le_of_ble_eq_true rfl) (Nat.le_of_ble_eq_true rfl) (by rw [ml11]; exact Nat.le_of_ble_eq_true rfl)
set_option maxRecDepth 20000 in
theorem i100_11 : ex_ X d 100 11 [.ref a] [] h Q = ex_ X d 100 12 [.ref a] [.ref a] h Q := ex_nx (show mx_at 100 11 = some (.aload_n 0, 1) by decide +kernel) rfl
set_option maxRecDepth 20000 in
theorem i100_12 : ex_ X d 100 12 [v0] [.ref a] h Q = (gk_ h a 5 [(11, 0)] = true ∧ ex_ X d 100 15 [v0] [gv_ h a 5] h Q) := R_getf (show mx_at 100 12 = some (.getfield 35, 3) by decide +kernel) (mx_fdo ow100 fd110035)
set_option maxRecDepth 20000 in
theorem i100_15 : ex_ X d 100 15 [.ref a] [w0] h Q = ex_ X d 100 16 [.ref a] [.ref a, w0] h Q := ex_nx (show mx_at 100 15 = some (.aload_n 0, 1) by decide +kernel) rfl
set_option maxRecDepth 20000 in
theorem i100_16 : ex_ X d 100 16 [v0] [.ref a, w0] h Q = (gk_ h a 1 [(11, 0)] = true ∧ ex_ X d 100 19 [v0] [gv_ h a 1, w0] h Q) := R_getf (show mx_at 100 16 = some (.getfield 21, 3) by decide +kernel) (mx_fdo ow100 fd110021)
set_option maxRecDepth 20000 in
theorem i100_19 (hc : co_ h a = some 5) : ex_ X (d + 1) 100 19 [v0] [.ref a0, .ref a] h Q = ev_ X d 39 [.ref a, .ref a0] h (fun r h' => ex_ X (d + 1) 100 22 [v0] (r.toList ++ []) h' Q) := R_vir (show mx_at 100 19 = some (.invokevirtual 283, 3) by decide +kernel) (mx_clk ow100 cc11_283) (Nat.le_of_ble_eq_true rfl) rfl rfl hc rfl (Nat.le_of_ble_eq_true rfl) (Nat.le_of_ble_eq_true rfl) (by rw [ml39]; exact Nat.le_of_ble_eq_true rfl)
set_option maxRecDepth 20000 in
theorem i100_22 : ex_ X d 100 22 [.ref a] [] h Q = ex_ X d 100 23 [.ref a] [.ref a] h Q := ex_nx (show mx_at 100 22 = some (.aload_n 0, 1) by decide +kernel) rfl
set_option maxRecDepth 20000 in
theorem i100_23 : ex_ X d 100 23 [v0] [.ref a] h Q = (gk_ h a 6 [(11, 0)] = true ∧ ex_ X d 100 26 [v0] [gv_ h a 6] h Q) := R_getf (show mx_at 100 23 = some (.getfield 38, 3) by decide +kernel) (mx_fdo ow100 fd110038)
set_option maxRecDepth 20000 in
theorem i100_26 : ex_ X d 100 26 [.ref a] [w0] h Q = ex_ X d 100 27 [.ref a] [.ref a, w0] h Q := ex_nx (show mx_at 100 26 = some (.aload_n 0, 1) by decide +kernel) rfl
set_option maxRecDepth 20000 in
theorem i100_27 : ex_ X d 100 27 [v0] [.ref a, w0] h Q = (gk_ h a 2 [(11, 0)] = true ∧ ex_ X d 100 30 [v0] [gv_ h a 2, w0] h Q) := R_getf (show mx_at 100 27 = some (.getfield 25, 3) by decide +kernel) (mx_fdo ow100 fd110025)
set_option maxRecDepth 20000 in
theorem i100_30 (hc : co_ h a = some 5) : ex_ X (d + 1) 100 30 [v0] [.ref a0, .ref a] h Q = ev_ X d 39 [.ref a, .ref a0] h (fun r h' => ex_ X (d + 1) 100 33 [v0] (r.toList ++ []) h' Q) := R_vir (show mx_at 100 30 = some (.invokevirtual 283, 3) by decide +kernel) (mx_clk ow100 cc11_283) (Nat.le_of_ble_eq_true rfl) rfl rfl hc rfl (Nat.le_of_ble_eq_true rfl) (Nat.le_of_ble_eq_true rfl) (by rw [ml39]; exact Nat.le_of_ble_eq_true rfl)
set_option maxRecDepth 20000 in
theorem i100_33 : ex_ X d 100 33 [.ref a] [] h Q = ex_ X d 100 34 [.ref a] [.ref a] h Q := ex_nx (show mx_at 100 33 = some (.aload_n 0, 1) by decide +kernel) rfl
set_option maxRecDepth 20000 in
theorem i100_34 : ex_ X d 100 34 [.ref a] [w0] h Q = ex_ X d 100 35 [.ref a] [.ref a, w0] h Q := ex_nx (show mx_at 100 34 = some (.aload_n 0, 1) by decide +kernel) rfl
set_option maxRecDepth 20000 in
theorem i100_35 : ex_ X d 100 35 [v0] [.ref a, w0] h Q = (gk_ h a 3 [(11, 0)] = true ∧ ex_ X d 100 38 [v0] [gv_ h a 3, w0] h Q) := R_getf (show mx_at 100 35 = some (.getfield 28, 3) by decide +kernel) (mx_fdo ow100 fd110028)
set_option maxRecDepth 20000 in
theorem i100_38 : ex_ X d 100 38 [v0] [w, .ref a] h Q = (pk_ 100 h a 7 w [(11, 0)] = true ∧ ex_ X d 100 41 [v0] [] (pf_ h a 7 w) Q) := R_putf (show mx_at 100 38 = some (.putfield 286, 3) by decide +kernel) (mx_fdo ow100 fd110286)
set_option maxRecDepth 20000 in
theorem i100_41 : ex_ X d 100 41 [.ref a] [] h Q = ex_ X d 100 42 [.ref a] [.ref a] h Q := ex_nx (show mx_at 100 41 = some (.aload_n 0, 1) by decide +kernel) rfl
set_option maxRecDepth 20000 in
theorem i100_42 : ex_ X d 100 42 [v0] [.ref a] h Q = ex_ X d 100 43 [v0] [.ref a, .ref a] h Q := ex_nx (show mx_at 100 42 = some (.dup, 1) by decide +kernel) rfl
set_option maxRecDepth 20000 in
theorem i100_43 : ex_ X d 100 43 [v0] [.ref a, w0] h Q = (gk_ h a 8 [(11, 0)] = true ∧ ex_ X d 100 46 [v0] [gv_ h a 8, w0] h Q) := R_getf (show mx_at 100 43 = some (.getfield 289, 3) by decide +kernel) (mx_fdo ow100 fd110289)
set_option maxRecDepth 20000 in
theorem i100_46 : ex_ X d 100 46 [v0] [w0, w1] h Q = ex_ X d 100 47 [v0] [.int 1, w0, w1] h Q := R_iconst (show mx_at 100 46 = some (.iconst 1, 1) by decide +kernel) (by decide)
set_option maxRecDepth 20000 in
theorem i100_47 : ex_ X d 100 47 [v0] [.int y, .int x, w0] h Q = ex_ X d 100 48 [v0] [.int (x + y), w0] h Q := ex_nx (show mx_at 100 47 = some (.iadd, 1) by decide +kernel) rfl
set_option maxRecDepth 20000 in
theorem i100_48 : ex_ X d 100 48 [v0] [w, .ref a] h Q = (pk_ 100 h a 8 w [(11, 0)] = true ∧ ex_ X d 100 51 [v0] [] (pf_ h a 8 w) Q) := R_putf (show mx_at 100 48 = some (.putfield 289, 3) by decide +kernel) (mx_fdo ow100 fd110289)
set_option maxRecDepth 20000 in
theorem i100_51 : ex_ X d 100 51 [.ref a] [] h Q = ex_ X d 100 52 [.ref a] [.ref a] h Q := ex_nx (show mx_at 100 51 = some (.aload_n 0, 1) by decide +kernel) rfl
set_option maxRecDepth 20000 in
theorem i100_52 : ex_ X d 100 52 [v0] [.ref a] h Q = (gk_ h a 8 [(11, 0)] = true ∧ ex_ X d 100 55 [v0] [gv_ h a 8] h Q) := R_getf (show mx_at 100 52 = some (.getfield 289, 3) by decide +kernel) (mx_fdo ow100 fd110289)
set_option maxRecDepth 20000 in
theorem i100_55 : ex_ X d 100 55 [v0] [.int x] h Q = Q (some (.int x)) h := ex_ret (show mx_at 100 55 = some (.ireturn, 1) by decide +kernel) (mx_retI rt100)
theorem i100_e : ev_ X d 100 [.ref a] h Q = ex_ X d 100 0 [.ref a] [] h Q := by rw [ev_, ml100]; rfl
-- 101 X11_restore
set_option maxRecDepth 20000 in
theorem i101_0 : ex_ X d 101 0 [.ref a] [] h Q = ex_ X d 101 1 [.ref a] [.ref a] h Q := ex_nx (show mx_at 101 0 = some (.aload_n 0, 1) by decide +kernel) rfl
set_option maxRecDepth 20000 in
theorem i101_1 : ex_ X d 101 1 [v0] [.ref a] h Q = (gk_ h a 8 [(11, 0)] = true ∧ ex_ X d 101 4 [v0] [gv_ h a 8] h Q) := R_getf (show mx_at 101 1 = some (.getfield 289, 3) by decide +kernel) (mx_fdo ow101 fd110289)
set_option maxRecDepth 20000 in
theorem i101_4 : ex_ X d 101 4 [v0] [.int x] h Q = if ¬ x = 0 then ex_ X d 101 13 [v0] [] h Q else ex_ X d 101 7 [v0] [] h Q := (R_br (show mx_at 101 4 = some (.ifCond .ne 9, 3) by decide +kernel) rfl rfl).trans mx_ite
set_option maxRecDepth 20000 in
theorem i101_7 : ex_ X d 101 7 [.ref a] [] h Q = ex_ X d 101 8 [.ref a] [.ref a] h Q := ex_nx (show mx_at 101 7 = some (.aload_n 0, 1) by decide +kernel) rfl
set_option maxRecDepth 20000 in
theorem i101_8 : ex_ X d 101 8 [v0] [w0] h Q = ex_ X d 101 9 [v0] [.int 2, w0] h Q := R_iconst (show mx_at 101 8 = some (.iconst 2, 1) by decide +kernel) (by decide)
set_option maxRecDepth 20000 in
theorem i101_9 (hc : co_ h a = some 11) : ex_ X (d + 1) 101 9 [v0] [.int x0, .ref a] h Q = ev_ X d 106 [.ref a, .int x0] h (fun r h' => ex_ X (d + 1) 101 12 [v0] (r.toList ++ []) h' Q) := R_vir (show mx_at 101 9 = some (.invokevirtual 72, 3) by decide +kernel) (mx_clk ow101 cc11_72) (Nat.le_of_ble_eq_true rfl) rfl rfl hc rfl (Nat.le_of_ble_eq_true rfl) (Nat.le_of_ble_eq_true rfl) (by rw [ml106]; exact Nat.le_of_ble_eq_true rfl)
set_option maxRecDepth 20000 in
theorem i101_12 : ex_ X d 101 12 [v0] [.int x] h Q = Q (some (.int x)) h := ex_ret (show mx_at 101 12 = some (.ireturn, 1) by decide +kernel) (mx_retI rt101)
set_option maxRecDepth 20000 in
theorem i101_13 : ex_ X d 101 13 [.ref a] [] h Q = ex_ X d 101 14 [.ref a] [.ref a] h Q := ex_nx (show mx_at 101 13 = some (.aload_n 0, 1) by decide +kernel) rfl
set_option maxRecDepth 20000 in
theorem i101_14 : ex_ X d 101 14 [v0] [.ref a] h Q = (gk_ h a 0 [(11, 0)] = true ∧ ex_ X d 101 17 [v0] [gv_ h a 0] h Q) := R_getf (show mx_at 101 14 = some (.getfield 12, 3) by decide +kernel) (mx_fdo ow101 fd110012)
set_option maxRecDepth 20000 in
theorem i101_17 : ex_ X d 101 17 [.ref a] [w0] h Q = ex_ X d 101 18 [.ref a] [.ref a, w0] h Q := ex_nx (show mx_at 101 17 = some (.aload_n 0, 1) by decide +kernel) rfl
set_option maxRecDepth 20000 in
theorem i101_18 : ex_ X d 101 18 [v0] [.ref a, w0] h Q = (gk_ h a 4 [(11, 0)] = true ∧ ex_ X d 101 21 [v0] [gv_ h a 4, w0] h Q) := R_getf (show mx_at 101 18 = some (.getfield 32, 3) by decide +kernel) (mx_fdo ow101 fd110032)
set_option maxRecDepth 20000 in
theorem i101_21 (hc : co_ h a = some 3) : ex_ X (d + 1) 101 21 [v0] [.ref a0, .ref a] h Q = ev_ X d 11 [.ref a, .ref a0] h (fun r h' => ex_ X (d + 1) 101 24 [v0] (r.toList ++ []) h' Q) := R_vir (show mx_at 101 21 = some (.invokevirtual 230, 3) by decide +kernel) (mx_clk ow101 cc11_230) (Nat.le_of_ble_eq_true rfl) rfl rfl hc rfl (Nat.le_of_ble_eq_true rfl) (Nat.le_of_ble_eq_true rfl) (by rw [ml11]; exact Nat.le_of_ble_eq_true rfl)
set_option maxRecDepth 20000 in
theorem i101_24 : ex_ X d 101 24 [.ref a] [] h Q = ex_ X d 101 25 [.ref a] [.ref a] h Q := ex_nx (show mx_at 101 24 = some (.aload_n 0, 1) by decide +kernel) rfl
set_option maxRecDepth 20000 in
theorem i101_25 : ex_ X d 101 25 [v0] [.ref a] h Q = (gk_ h a 1 [(11, 0)] = true ∧ ex_ X d 101 28 [v0] [gv_ h a 1] h Q) := R_getf (show mx_at 101 25 = some (.getfield 21, 3) by decide +kernel) (mx_fdo ow101 fd110021)
set_option maxRecDepth 20000 in
theorem i101_28 : ex_ X d 101 28 [.ref a] [w0] h Q = ex_ X d 101 29 [.ref a] [.ref a, w0] h Q := ex_nx (show mx_at 101 28 = some (.aload_n 0, 1) by decide +kernel) rfl
set_option maxRecDepth 20000 in
theorem i101_29 : ex_ X d 101 29 [v0] [.ref a, w0] h Q = (gk_ h a 5 [(11, 0)] = true ∧ ex_ X d 101 32 [v0] [gv_ h a 5, w0] h Q) := R_getf (show mx_at 101 29 = some (.getfield 35, 3) by decide +kernel) (mx_fdo ow101 fd110035)
set_option maxRecDepth 20000 in
theorem i101_32 (hc : co_ h a = some 5) : ex_ X (d + 1) 101 32 [v0] [.ref a0, .ref a] h Q = ev_ X d 39 [.ref a, .ref a0] h (fun r h' => ex_ X (d + 1) 101 35 [v0] (r.toList ++ []) h' Q) := R_vir (show mx_at 101 32 = some (.invokevirtual 283, 3) by decide +kernel) (mx_clk ow101 cc11_283) (Nat.le_of_ble_eq_true rfl) rfl rfl hc rfl (Nat.le_of_ble_eq_true rfl) (Nat.le_of_ble_eq_true rfl) (by rw [ml39]; exact Nat.le_of_ble_eq_true rfl)
set_option maxRecDepth 20000 in
theorem i101_35 : ex_ X d 101 35 [.ref a] [] h Q = ex_ X d 101 36 [.ref a] [.ref a] h Q := ex_nx (show mx_at 101 35 = some (.aload_n 0, 1) by decide +kernel) rfl
set_option maxRecDepth 20000 in
theorem i101_36 : ex_ X d 101 36 [v0] [.ref a] h Q = (gk_ h a 2 [(11, 0)] = true ∧ ex_ X d 101 39 [v0] [gv_ h a 2] h Q) := R_getf (show mx_at 101 36 = some (.getfield 25, 3) by decide +kernel) (mx_fdo ow101 fd110025)
set_option maxRecDepth 20000 in
theorem i101_39 : ex_ X d 101 39 [.ref a] [w0] h Q = ex_ X d 101 40 [.ref a] [.ref a, w0] h Q := ex_nx (show mx_at 101 39 = some (.aload_n 0, 1) by decide +kernel) rfl
set_option maxRecDepth 20000 in
theorem i101_40 : ex_ X d 101 40 [v0] [.ref a, w0] h Q = (gk_ h a 6 [(11, 0)] = true ∧ ex_ X d 101 43 [v0] [gv_ h a 6, w0] h Q) := R_getf (show mx_at 101 40 = some (.getfield 38, 3) by decide +kernel) (mx_fdo ow101 fd110038)
set_option maxRecDepth 20000 in
theorem i101_43 (hc : co_ h a = some 5) : ex_ X (d + 1) 101 43 [v0] [.ref a0, .ref a] h Q = ev_ X d 39 [.ref a, .ref a0] h (fun r h' => ex_ X (d + 1) 101 46 [v0] (r.toList ++ []) h' Q) := R_vir (show mx_at 101 43 = some (.invokevirtual 283, 3) by decide +kernel) (mx_clk ow101 cc11_283) (Nat.le_of_ble_eq_true rfl) rfl rfl hc rfl (Nat.le_of_ble_eq_true rfl) (Nat.le_of_ble_eq_true rfl) (by rw [ml39]; exact Nat.le_of_ble_eq_true rfl)
set_option maxRecDepth 20000 in
theorem i101_46 : ex_ X d 101 46 [.ref a] [] h Q = ex_ X d 101 47 [.ref a] [.ref a] h Q := ex_nx (show mx_at 101 46 = some (.aload_n 0, 1) by decide +kernel) rfl
set_option maxRecDepth 20000 in
theorem i101_47 : ex_ X d 101 47 [.ref a] [w0] h Q = ex_ X d 101 48 [.ref a] [.ref a, w0] h Q := ex_nx (show mx_at 101 47 = some (.aload_n 0, 1) by decide +kernel) rfl
set_option maxRecDepth 20000 in
theorem i101_48 : ex_ X d 101 48 [v0] [.ref a, w0] h Q = (gk_ h a 7 [(11, 0)] = true ∧ ex_ X d 101 51 [v0] [gv_ h a 7, w0] h Q) := R_getf (show mx_at 101 48 = some (.getfield 286, 3) by decide +kernel) (mx_fdo ow101 fd110286)
set_option maxRecDepth 20000 in
theorem i101_51 : ex_ X d 101 51 [v0] [w, .ref a] h Q = (pk_ 101 h a 3 w [(11, 0)] = true ∧ ex_ X d 101 54 [v0] [] (pf_ h a 3 w) Q) := R_putf (show mx_at 101 51 = some (.putfield 28, 3) by decide +kernel) (mx_fdo ow101 fd110028)
set_option maxRecDepth 20000 in
theorem i101_54 : ex_ X d 101 54 [.ref a] [] h Q = ex_ X d 101 55 [.ref a] [.ref a] h Q := ex_nx (show mx_at 101 54 = some (.aload_n 0, 1) by decide +kernel) rfl
set_option maxRecDepth 20000 in
theorem i101_55 : ex_ X d 101 55 [v0] [.ref a] h Q = (gk_ h a 0 [(11, 0)] = true ∧ ex_ X d 101 58 [v0] [gv_ h a 0] h Q) := R_getf (show mx_at 101 55 = some (.getfield 12, 3) by decide +kernel) (mx_fdo ow101 fd110012)
set_option maxRecDepth 20000 in
theorem i101_58 : ex_ X d 101 58 [v0] [.ref a] h Q = (gk_ h a 0 [(3, 0)] = true ∧ ex_ X d 101 61 [v0] [gv_ h a 0] h Q) := R_getf (show mx_at 101 58 = some (.getfield 205, 3) by decide +kernel) (mx_fdo ow101 fd110205)
set_option maxRecDepth 20000 in
theorem i101_61 : ex_ X d 101 61 [v0] [.int x] h Q = Q (some (.int x)) h := ex_ret (show mx_at 101 61 = some (.ireturn, 1) by decide +kernel) (mx_retI rt101)
theorem i101_e : ev_ X d 101 [.ref a] h Q = ex_ X d 101 0 [.ref a] [] h Q := by rw [ev_, ml101]; rfl
-- 102 X11_tell
set_option maxRecDepth 20000 in
theorem i102_0 : ex_ X d 102 0 [.ref a, v1] [] h Q = ex_ X d 102 1 [.ref a, v1] [.ref a] h Q := ex_nx (show mx_at 102 0 = some (.aload_n 0, 1) by decide +kernel) rfl
set_option maxRecDepth 20000 in
theorem i102_1 : ex_ X d 102 1 [v0, v1] [.ref a] h Q = (gk_ h a 2 [(11, 0)] = true ∧ ex_ X d 102 4 [v0, v1] [gv_ h a 2] h Q) := R_getf (show mx_at 102 1 = some (.getfield 25, 3) by decide +kernel) (mx_fdo ow102 fd110025)
set_option maxRecDepth 20000 in
theorem i102_4 : ex_ X d 102 4 [v0, .int x] [w0] h Q = ex_ X d 102 5 [v0, .int x] [.int x, w0] h Q := ex_nx (show mx_at 102 4 = some (.iload_n 1, 1) by decide +kernel) rfl
set_option maxRecDepth 20000 in
theorem i102_5 (hc : co_ h a = some 5) : ex_ X (d + 1) 102 5 [v0, v1] [.int x0, .ref a] h Q = ev_ X d 36 [.ref a, .int x0] h (fun r h' => ex_ X (d + 1) 102 8 [v0, v1] (r.toList ++ []) h' Q) := R_vir (show mx_at 102 5 = some (.invokevirtual 177, 3) by decide +kernel) (mx_clk ow102 cc11_177) (Nat.le_of_ble_eq_true rfl) rfl rfl hc rfl (Nat.le_of_ble_eq_true rfl) (Nat.le_of_ble_eq_true rfl) (by rw [ml36]; exact Nat.le_of_ble_eq_true rfl)
set_option maxRecDepth 20000 in
theorem i102_8 : ex_ X d 102 8 [v0, v1] [.int x] h Q = if ¬ x = 0 then ex_ X d 102 17 [v0, v1] [] h Q else ex_ X d 102 11 [v0, v1] [] h Q := (R_br (show mx_at 102 8 = some (.ifCond .ne 9, 3) by decide +kernel) rfl rfl).trans mx_ite
set_option maxRecDepth 20000 in
theorem i102_11 : ex_ X d 102 11 [.ref a, v1] [] h Q = ex_ X d 102 12 [.ref a, v1] [.ref a] h Q := ex_nx (show mx_at 102 11 = some (.aload_n 0, 1) by decide +kernel) rfl
set_option maxRecDepth 20000 in
theorem i102_12 : ex_ X d 102 12 [v0, v1] [w0] h Q = ex_ X d 102 13 [v0, v1] [.int 4, w0] h Q := R_iconst (show mx_at 102 12 = some (.iconst 4, 1) by decide +kernel) (by decide)
set_option maxRecDepth 20000 in
theorem i102_13 (hc : co_ h a = some 11) : ex_ X (d + 1) 102 13 [v0, v1] [.int x0, .ref a] h Q = ev_ X d 106 [.ref a, .int x0] h (fun r h' => ex_ X (d + 1) 102 16 [v0, v1] (r.toList ++ []) h' Q) := R_vir (show mx_at 102 13 = some (.invokevirtual 72, 3) by decide +kernel) (mx_clk ow102 cc11_72) (Nat.le_of_ble_eq_true rfl) rfl rfl hc rfl (Nat.le_of_ble_eq_true rfl) (Nat.le_of_ble_eq_true rfl) (by rw [ml106]; exact Nat.le_of_ble_eq_true rfl)
set_option maxRecDepth 20000 in
theorem i102_16 : ex_ X d 102 16 [v0, v1] [.int x] h Q = Q (some (.int x)) h := ex_ret (show mx_at 102 16 = some (.ireturn, 1) by decide +kernel) (mx_retI rt102)
set_option maxRecDepth 20000 in
theorem i102_17 : ex_ X d 102 17 [.ref a, v1] [] h Q = ex_ X d 102 18 [.ref a, v1] [.ref a] h Q := ex_nx (show mx_at 102 17 = some (.aload_n 0, 1) by decide +kernel) rfl
set_option maxRecDepth 20000 in
theorem i102_18 : ex_ X d 102 18 [v0, v1] [.ref a] h Q = (gk_ h a 2 [(11, 0)] = true ∧ ex_ X d 102 21 [v0, v1] [gv_ h a 2] h Q) := R_getf (show mx_at 102 18 = some (.getfield 25, 3) by decide +kernel) (mx_fdo ow102 fd110025)
set_option maxRecDepth 20000 in
theorem i102_21 : ex_ X d 102 21 [v0, v1] [.ref a] h Q = (gk_ h a 1 [(5, 0)] = true ∧ ex_ X d 102 24 [v0, v1] [gv_ h a 1] h Q) := R_getf (show mx_at 102 21 = some (.getfield 176, 3) by decide +kernel) (mx_fdo ow102 fd110176)
set_option maxRecDepth 20000 in
theorem i102_24 : ex_ X d 102 24 [v0, v1] [.int x] h Q = Q (some (.int x)) h := ex_ret (show mx_at 102 24 = some (.ireturn, 1) by decide +kernel) (mx_retI rt102)
theorem i102_e : ev_ X d 102 [.ref a, .int x0] h Q = ex_ X d 102 0 [.ref a, .int x0] [] h Q := by rw [ev_, ml102]; rfl
-- 103 X11_check
set_option maxRecDepth 20000 in
theorem i103_0 : ex_ X d 103 0 [v0, .int x, v2, v3] [] h Q = ex_ X d 103 1 [v0, .int x, v2, v3] [.int x] h Q := ex_nx (show mx_at 103 0 = some (.iload_n 1, 1) by decide +kernel) rfl
set_option maxRecDepth 20000 in
theorem i103_1 : ex_ X (d + 1) 103 1 [v0, v1, v2, v3] [.int x0] h Q = ev_ X d 112 [.int x0] h (fun r h' => ex_ X (d + 1) 103 4 [v0, v1, v2, v3] (r.toList ++ []) h' Q) := R_stat (show mx_at 103 1 = some (.invokestatic 212, 3) by decide +kernel) (mx_clk ow103 cc11_212) (Nat.le_of_ble_eq_true rfl) rfl rfl (Nat.le_of_ble_eq_true rfl) ml112 (Nat.le_of_ble_eq_true rfl)
set_option maxRecDepth 20000 in
theorem i103_4 : ex_ X d 103 4 [v0, v1, v2, v3] [.int x] h Q = if ¬ x = 0 then ex_ X d 103 20 [v0, v1, v2, v3] [] h Q else ex_ X d 103 7 [v0, v1, v2, v3] [] h Q := (R_br (show mx_at 103 4 = some (.ifCond .ne 16, 3) by decide +kernel) rfl rfl).trans mx_ite
set_option maxRecDepth 20000 in
theorem i103_7 : ex_ X d 103 7 [.ref a, v1, v2, v3] [] h Q = ex_ X d 103 8 [.ref a, v1, v2, v3] [.ref a] h Q := ex_nx (show mx_at 103 7 = some (.aload_n 0, 1) by decide +kernel) rfl
set_option maxRecDepth 20000 in
theorem i103_8 : ex_ X d 103 8 [v0, v1, v2, v3] [.ref a] h Q = (gk_ h a 2 [(11, 0)] = true ∧ ex_ X d 103 11 [v0, v1, v2, v3] [gv_ h a 2] h Q) := R_getf (show mx_at 103 8 = some (.getfield 25, 3) by decide +kernel) (mx_fdo ow103 fd110025)
set_option maxRecDepth 20000 in
theorem i103_11 (hc : co_ h a = some 5) : ex_ X (d + 1) 103 11 [v0, v1, v2, v3] [.ref a] h Q = ev_ X d 37 [.ref a] h (fun r h' => ex_ X (d + 1) 103 14 [v0, v1, v2, v3] (r.toList ++ []) h' Q) := R_vir (show mx_at 103 11 = some (.invokevirtual 191, 3) by decide +kernel) (mx_clk ow103 cc11_191) (Nat.le_of_ble_eq_true rfl) rfl rfl hc rfl (Nat.le_of_ble_eq_true rfl) (Nat.le_of_ble_eq_true rfl) (by rw [ml37]; exact Nat.le_of_ble_eq_true rfl)
set_option maxRecDepth 20000 in
theorem i103_14 : ex_ X d 103 14 [.ref a, v1, v2, v3] [] h Q = ex_ X d 103 15 [.ref a, v1, v2, v3] [.ref a] h Q := ex_nx (show mx_at 103 14 = some (.aload_n 0, 1) by decide +kernel) rfl
set_option maxRecDepth 20000 in
theorem i103_15 : ex_ X d 103 15 [v0, v1, v2, v3] [w0] h Q = ex_ X d 103 16 [v0, v1, v2, v3] [.int 1, w0] h Q := R_iconst (show mx_at 103 15 = some (.iconst 1, 1) by decide +kernel) (by decide)
set_option maxRecDepth 20000 in
theorem i103_16 (hc : co_ h a = some 11) : ex_ X (d + 1) 103 16 [v0, v1, v2, v3] [.int x0, .ref a] h Q = ev_ X d 106 [.ref a, .int x0] h (fun r h' => ex_ X (d + 1) 103 19 [v0, v1, v2, v3] (r.toList ++ []) h' Q) := R_vir (show mx_at 103 16 = some (.invokevirtual 72, 3) by decide +kernel) (mx_clk ow103 cc11_72) (Nat.le_of_ble_eq_true rfl) rfl rfl hc rfl (Nat.le_of_ble_eq_true rfl) (Nat.le_of_ble_eq_true rfl) (by rw [ml106]; exact Nat.le_of_ble_eq_true rfl)
set_option maxRecDepth 20000 in
theorem i103_19 : ex_ X d 103 19 [v0, v1, v2, v3] [.int x] h Q = Q (some (.int x)) h := ex_ret (show mx_at 103 19 = some (.ireturn, 1) by decide +kernel) (mx_retI rt103)
set_option maxRecDepth 20000 in
theorem i103_20 : ex_ X d 103 20 [.ref a, v1, v2, v3] [] h Q = ex_ X d 103 21 [.ref a, v1, v2, v3] [.ref a] h Q := ex_nx (show mx_at 103 20 = some (.aload_n 0, 1) by decide +kernel) rfl
set_option maxRecDepth 20000 in
theorem i103_21 : ex_ X d 103 21 [v0, .int x, v2, v3] [w0] h Q = ex_ X d 103 22 [v0, .int x, v2, v3] [.int x, w0] h Q := ex_nx (show mx_at 103 21 = some (.iload_n 1, 1) by decide +kernel) rfl
set_option maxRecDepth 20000 in
theorem i103_22 (hc : co_ h a = some 11) : ex_ X (d + 1) 103 22 [v0, v1, v2, v3] [.int x0, .ref a] h Q = ev_ X d 119 [.ref a, .int x0] h (fun r h' => ex_ X (d + 1) 103 25 [v0, v1, v2, v3] (r.toList ++ []) h' Q) := R_vir (show mx_at 103 22 = some (.invokevirtual 215, 3) by decide +kernel) (mx_clk ow103 cc11_215) (Nat.le_of_ble_eq_true rfl) rfl rfl hc rfl (Nat.le_of_ble_eq_true rfl) (Nat.le_of_ble_eq_true rfl) (by rw [ml119]; exact Nat.le_of_ble_eq_true rfl)
set_option maxRecDepth 20000 in
theorem i103_25 : ex_ X d 103 25 [v0, v1, v2, v3] [.ref a] h Q = (mx_nl v1 = true ∧ ex_ X d 103 26 [v0, v1, .ref a, v3] [] h Q) := mx_t1 (R_st (ok := mx_isA) (n := 2) (w := 1) (show mx_at 103 25 = some (.astore_n 2, 1) by decide +kernel) (fun _ _ => rfl) (Nat.le_of_ble_eq_true rfl)) rfl
set_option maxRecDepth 20000 in
theorem i103_26 : ex_ X d 103 26 [.ref a, v1, v2, v3] [] h Q = ex_ X d 103 27 [.ref a, v1, v2, v3] [.ref a] h Q := ex_nx (show mx_at 103 26 = some (.aload_n 0, 1) by decide +kernel) rfl
set_option maxRecDepth 20000 in
theorem i103_27 : ex_ X d 103 27 [v0, v1, v2, v3] [.ref a] h Q = (gk_ h a 2 [(11, 0)] = true ∧ ex_ X d 103 30 [v0, v1, v2, v3] [gv_ h a 2] h Q) := R_getf (show mx_at 103 27 = some (.getfield 25, 3) by decide +kernel) (mx_fdo ow103 fd110025)
set_option maxRecDepth 20000 in
theorem i103_30 : ex_ X d 103 30 [v0, v1, .ref a, v3] [w0] h Q = ex_ X d 103 31 [v0, v1, .ref a, v3] [.ref a, w0] h Q := ex_nx (show mx_at 103 30 = some (.aload_n 2, 1) by decide +kernel) rfl
set_option maxRecDepth 20000 in
theorem i103_31 : ex_ X d 103 31 [v0, v1, v2, v3] [.ref a, w0] h Q = (gk_ h a 10 [(3, 0)] = true ∧ ex_ X d 103 34 [v0, v1, v2, v3] [gv_ h a 10, w0] h Q) := R_getf (show mx_at 103 31 = some (.getfield 105, 3) by decide +kernel) (mx_fdo ow103 fd110105)
set_option maxRecDepth 20000 in
theorem i103_34 : ex_ X d 103 34 [v0, v1, .ref a, v3] [w0, w1] h Q = ex_ X d 103 35 [v0, v1, .ref a, v3] [.ref a, w0, w1] h Q := ex_nx (show mx_at 103 34 = some (.aload_n 2, 1) by decide +kernel) rfl
set_option maxRecDepth 20000 in
theorem i103_35 : ex_ X d 103 35 [v0, v1, v2, v3] [.ref a, w0, w1] h Q = (gk_ h a 7 [(3, 0)] = true ∧ ex_ X d 103 38 [v0, v1, v2, v3] [gv_ h a 7, w0, w1] h Q) := R_getf (show mx_at 103 35 = some (.getfield 76, 3) by decide +kernel) (mx_fdo ow103 fd110076)
set_option maxRecDepth 20000 in
theorem i103_38 (hc : co_ h a = some 5) : ex_ X (d + 1) 103 38 [v0, v1, v2, v3] [.int x1, .ref a0, .ref a] h Q = ev_ X d 38 [.ref a, .ref a0, .int x1] h (fun r h' => ex_ X (d + 1) 103 41 [v0, v1, v2, v3] (r.toList ++ []) h' Q) := R_vir (show mx_at 103 38 = some (.invokevirtual 292, 3) by decide +kernel) (mx_clk ow103 cc11_292) (Nat.le_of_ble_eq_true rfl) rfl rfl hc rfl (Nat.le_of_ble_eq_true rfl) (Nat.le_of_ble_eq_true rfl) (by rw [ml38]; exact Nat.le_of_ble_eq_true rfl)
set_option maxRecDepth 20000 in
theorem i103_41 : ex_ X d 103 41 [v0, v1, v2, v3] [.int x] h Q = (mx_nl v2 = true ∧ ex_ X d 103 42 [v0, v1, v2, .int x] [] h Q) := mx_t1 (R_st (ok := mx_isI) (n := 3) (w := 1) (show mx_at 103 41 = some (.istore_n 3, 1) by decide +kernel) (fun _ _ => rfl) (Nat.le_of_ble_eq_true rfl)) rfl
set_option maxRecDepth 20000 in
theorem i103_42 : ex_ X d 103 42 [.ref a, v1, v2, v3] [] h Q = ex_ X d 103 43 [.ref a, v1, v2, v3] [.ref a] h Q := ex_nx (show mx_at 103 42 = some (.aload_n 0, 1) by decide +kernel) rfl
set_option maxRecDepth 20000 in
theorem i103_43 : ex_ X d 103 43 [v0, v1, v2, v3] [.ref a] h Q = (gk_ h a 2 [(11, 0)] = true ∧ ex_ X d 103 46 [v0, v1, v2, v3] [gv_ h a 2] h Q) := R_getf (show mx_at 103 43 = some (.getfield 25, 3) by decide +kernel) (mx_fdo ow103 fd110025)
set_option maxRecDepth 20000 in
theorem i103_46 (hc : co_ h a = some 5) : ex_ X (d + 1) 103 46 [v0, v1, v2, v3] [.ref a] h Q = ev_ X d 37 [.ref a] h (fun r h' => ex_ X (d + 1) 103 49 [v0, v1, v2, v3] (r.toList ++ []) h' Q) := R_vir (show mx_at 103 46 = some (.invokevirtual 191, 3) by decide +kernel) (mx_clk ow103 cc11_191) (Nat.le_of_ble_eq_true rfl) rfl rfl hc rfl (Nat.le_of_ble_eq_true rfl) (Nat.le_of_ble_eq_true rfl) (by rw [ml37]; exact Nat.le_of_ble_eq_true rfl)
set_option maxRecDepth 20000 in
theorem i103_49 : ex_ X d 103 49 [v0, v1, v2, v3] [] h Q = ex_ X d 103 50 [v0, v1, v2, v3] [.int 1] h Q := R_iconst (show mx_at 103 49 = some (.iconst 1, 1) by decide +kernel) (by decide)
set_option maxRecDepth 20000 in
theorem i103_50 : ex_ X d 103 50 [v0, v1, v2, .int x] [w0] h Q = ex_ X d 103 51 [v0, v1, v2, .int x] [.int x, w0] h Q := ex_nx (show mx_at 103 50 = some (.iload_n 3, 1) by decide +kernel) rfl
set_option maxRecDepth 20000 in
theorem i103_51 : ex_ X d 103 51 [v0, v1, v2, v3] [.int y, .int x] h Q = ex_ X d 103 52 [v0, v1, v2, v3] [.int (x + y)] h Q := ex_nx (show mx_at 103 51 = some (.iadd, 1) by decide +kernel) rfl
set_option maxRecDepth 20000 in
theorem i103_52 : ex_ X d 103 52 [v0, v1, v2, v3] [.int x] h Q = Q (some (.int x)) h := ex_ret (show mx_at 103 52 = some (.ireturn, 1) by decide +kernel) (mx_retI rt103)
theorem i103_e : ev_ X d 103 [.ref a, .int x0] h Q = ex_ X d 103 0 [.ref a, .int x0, .double 0, .double 0] [] h Q := by rw [ev_, ml103]; rfl
-- 104 X11_count
set_option maxRecDepth 20000 in
theorem i104_0 : ex_ X d 104 0 [v0, .int x] [] h Q = ex_ X d 104 1 [v0, .int x] [.int x] h Q := ex_nx (show mx_at 104 0 = some (.iload_n 1, 1) by decide +kernel) rfl
set_option maxRecDepth 20000 in
theorem i104_1_0 : ex_ X d 104 1 [v0, v1] [.int 0] h Q = ex_ X d 104 52 [v0, v1] [] h Q := R_tsw (off := 51) (show mx_at 104 1 = some (.tableswitch 120 0 8 #[51, 59, 67, 75, 83, 91, 99, 107, 115], 51) by decide +kernel) (by decide) rfl
set_option maxRecDepth 20000 in
theorem i104_1_1 : ex_ X d 104 1 [v0, v1] [.int 1] h Q = ex_ X d 104 60 [v0, v1] [] h Q := R_tsw (off := 59) (show mx_at 104 1 = some (.tableswitch 120 0 8 #[51, 59, 67, 75, 83, 91, 99, 107, 115], 51) by decide +kernel) (by decide) rfl
set_option maxRecDepth 20000 in
theorem i104_1_2 : ex_ X d 104 1 [v0, v1] [.int 2] h Q = ex_ X d 104 68 [v0, v1] [] h Q := R_tsw (off := 67) (show mx_at 104 1 = some (.tableswitch 120 0 8 #[51, 59, 67, 75, 83, 91, 99, 107, 115], 51) by decide +kernel) (by decide) rfl
set_option maxRecDepth 20000 in
theorem i104_1_3 : ex_ X d 104 1 [v0, v1] [.int 3] h Q = ex_ X d 104 76 [v0, v1] [] h Q := R_tsw (off := 75) (show mx_at 104 1 = some (.tableswitch 120 0 8 #[51, 59, 67, 75, 83, 91, 99, 107, 115], 51) by decide +kernel) (by decide) rfl
set_option maxRecDepth 20000 in
theorem i104_1_4 : ex_ X d 104 1 [v0, v1] [.int 4] h Q = ex_ X d 104 84 [v0, v1] [] h Q := R_tsw (off := 83) (show mx_at 104 1 = some (.tableswitch 120 0 8 #[51, 59, 67, 75, 83, 91, 99, 107, 115], 51) by decide +kernel) (by decide) rfl
set_option maxRecDepth 20000 in
theorem i104_1_5 : ex_ X d 104 1 [v0, v1] [.int 5] h Q = ex_ X d 104 92 [v0, v1] [] h Q := R_tsw (off := 91) (show mx_at 104 1 = some (.tableswitch 120 0 8 #[51, 59, 67, 75, 83, 91, 99, 107, 115], 51) by decide +kernel) (by decide) rfl
set_option maxRecDepth 20000 in
theorem i104_1_6 : ex_ X d 104 1 [v0, v1] [.int 6] h Q = ex_ X d 104 100 [v0, v1] [] h Q := R_tsw (off := 99) (show mx_at 104 1 = some (.tableswitch 120 0 8 #[51, 59, 67, 75, 83, 91, 99, 107, 115], 51) by decide +kernel) (by decide) rfl
set_option maxRecDepth 20000 in
theorem i104_1_7 : ex_ X d 104 1 [v0, v1] [.int 7] h Q = ex_ X d 104 108 [v0, v1] [] h Q := R_tsw (off := 107) (show mx_at 104 1 = some (.tableswitch 120 0 8 #[51, 59, 67, 75, 83, 91, 99, 107, 115], 51) by decide +kernel) (by decide) rfl
set_option maxRecDepth 20000 in
theorem i104_1_8 : ex_ X d 104 1 [v0, v1] [.int 8] h Q = ex_ X d 104 116 [v0, v1] [] h Q := R_tsw (off := 115) (show mx_at 104 1 = some (.tableswitch 120 0 8 #[51, 59, 67, 75, 83, 91, 99, 107, 115], 51) by decide +kernel) (by decide) rfl
set_option maxRecDepth 20000 in
theorem i104_1_d (hx : x.toInt < 0 ∨ 8 < x.toInt) : ex_ X d 104 1 [v0, v1] [.int x] h Q = ex_ X d 104 121 [v0, v1] [] h Q := R_tsw (off := 120) (show mx_at 104 1 = some (.tableswitch 120 0 8 #[51, 59, 67, 75, 83, 91, 99, 107, 115], 51) by decide +kernel) (if_pos hx) rfl
set_option maxRecDepth 20000 in
theorem i104_52 : ex_ X d 104 52 [.ref a, v1] [] h Q = ex_ X d 104 53 [.ref a, v1] [.ref a] h Q := ex_nx (show mx_at 104 52 = some (.aload_n 0, 1) by decide +kernel) rfl
set_option maxRecDepth 20000 in
theorem i104_53 : ex_ X d 104 53 [v0, v1] [.ref a] h Q = (gk_ h a 0 [(11, 0)] = true ∧ ex_ X d 104 56 [v0, v1] [gv_ h a 0] h Q) := R_getf (show mx_at 104 53 = some (.getfield 12, 3) by decide +kernel) (mx_fdo ow104 fd110012)
set_option maxRecDepth 20000 in
theorem i104_56 : ex_ X d 104 56 [v0, v1] [.ref a] h Q = (gk_ h a 0 [(3, 0)] = true ∧ ex_ X d 104 59 [v0, v1] [gv_ h a 0] h Q) := R_getf (show mx_at 104 56 = some (.getfield 205, 3) by decide +kernel) (mx_fdo ow104 fd110205)
set_option maxRecDepth 20000 in
theorem i104_59 : ex_ X d 104 59 [v0, v1] [.int x] h Q = Q (some (.int x)) h := ex_ret (show mx_at 104 59 = some (.ireturn, 1) by decide +kernel) (mx_retI rt104)
set_option maxRecDepth 20000 in
theorem i104_60 : ex_ X d 104 60 [.ref a, v1] [] h Q = ex_ X d 104 61 [.ref a, v1] [.ref a] h Q := ex_nx (show mx_at 104 60 = some (.aload_n 0, 1) by decide +kernel) rfl
set_option maxRecDepth 20000 in
theorem i104_61 : ex_ X d 104 61 [v0, v1] [.ref a] h Q = (gk_ h a 0 [(11, 0)] = true ∧ ex_ X d 104 64 [v0, v1] [gv_ h a 0] h Q) := R_getf (show mx_at 104 61 = some (.getfield 12, 3) by decide +kernel) (mx_fdo ow104 fd110012)
set_option maxRecDepth 20000 in
theorem i104_64 : ex_ X d 104 64 [v0, v1] [.ref a] h Q = (gk_ h a 7 [(3, 0)] = true ∧ ex_ X d 104 67 [v0, v1] [gv_ h a 7] h Q) := R_getf (show mx_at 104 64 = some (.getfield 76, 3) by decide +kernel) (mx_fdo ow104 fd110076)
set_option maxRecDepth 20000 in
theorem i104_67 : ex_ X d 104 67 [v0, v1] [.int x] h Q = Q (some (.int x)) h := ex_ret (show mx_at 104 67 = some (.ireturn, 1) by decide +kernel) (mx_retI rt104)
set_option maxRecDepth 20000 in
theorem i104_68 : ex_ X d 104 68 [.ref a, v1] [] h Q = ex_ X d 104 69 [.ref a, v1] [.ref a] h Q := ex_nx (show mx_at 104 68 = some (.aload_n 0, 1) by decide +kernel) rfl
set_option maxRecDepth 20000 in
theorem i104_69 : ex_ X d 104 69 [v0, v1] [.ref a] h Q = (gk_ h a 0 [(11, 0)] = true ∧ ex_ X d 104 72 [v0, v1] [gv_ h a 0] h Q) := R_getf (show mx_at 104 69 = some (.getfield 12, 3) by decide +kernel) (mx_fdo ow104 fd110012)
set_option maxRecDepth 20000 in
theorem i104_72 : ex_ X d 104 72 [v0, v1] [.ref a] h Q = (gk_ h a 12 [(3, 0)] = true ∧ ex_ X d 104 75 [v0, v1] [gv_ h a 12] h Q) := R_getf (show mx_at 104 72 = some (.getfield 127, 3) by decide +kernel) (mx_fdo ow104 fd110127)
set_option maxRecDepth 20000 in
theorem i104_75 : ex_ X d 104 75 [v0, v1] [.int x] h Q = Q (some (.int x)) h := ex_ret (show mx_at 104 75 = some (.ireturn, 1) by decide +kernel) (mx_retI rt104)
set_option maxRecDepth 20000 in
theorem i104_76 : ex_ X d 104 76 [.ref a, v1] [] h Q = ex_ X d 104 77 [.ref a, v1] [.ref a] h Q := ex_nx (show mx_at 104 76 = some (.aload_n 0, 1) by decide +kernel) rfl
set_option maxRecDepth 20000 in
theorem i104_77 : ex_ X d 104 77 [v0, v1] [.ref a] h Q = (gk_ h a 0 [(11, 0)] = true ∧ ex_ X d 104 80 [v0, v1] [gv_ h a 0] h Q) := R_getf (show mx_at 104 77 = some (.getfield 12, 3) by decide +kernel) (mx_fdo ow104 fd110012)
set_option maxRecDepth 20000 in
theorem i104_80 : ex_ X d 104 80 [v0, v1] [.ref a] h Q = (gk_ h a 1 [(3, 0)] = true ∧ ex_ X d 104 83 [v0, v1] [gv_ h a 1] h Q) := R_getf (show mx_at 104 80 = some (.getfield 167, 3) by decide +kernel) (mx_fdo ow104 fd110167)
set_option maxRecDepth 20000 in
theorem i104_83 : ex_ X d 104 83 [v0, v1] [.int x] h Q = Q (some (.int x)) h := ex_ret (show mx_at 104 83 = some (.ireturn, 1) by decide +kernel) (mx_retI rt104)
set_option maxRecDepth 20000 in
theorem i104_84 : ex_ X d 104 84 [.ref a, v1] [] h Q = ex_ X d 104 85 [.ref a, v1] [.ref a] h Q := ex_nx (show mx_at 104 84 = some (.aload_n 0, 1) by decide +kernel) rfl
set_option maxRecDepth 20000 in
theorem i104_85 : ex_ X d 104 85 [v0, v1] [.ref a] h Q = (gk_ h a 0 [(11, 0)] = true ∧ ex_ X d 104 88 [v0, v1] [gv_ h a 0] h Q) := R_getf (show mx_at 104 85 = some (.getfield 12, 3) by decide +kernel) (mx_fdo ow104 fd110012)
set_option maxRecDepth 20000 in
theorem i104_88 (hc : co_ h a = some 3) : ex_ X (d + 1) 104 88 [v0, v1] [.ref a] h Q = ev_ X d 26 [.ref a] h (fun r h' => ex_ X (d + 1) 104 91 [v0, v1] (r.toList ++ []) h' Q) := R_vir (show mx_at 104 88 = some (.invokevirtual 296, 3) by decide +kernel) (mx_clk ow104 cc11_296) (Nat.le_of_ble_eq_true rfl) rfl rfl hc rfl (Nat.le_of_ble_eq_true rfl) (Nat.le_of_ble_eq_true rfl) (by rw [ml26]; exact Nat.le_of_ble_eq_true rfl)
set_option maxRecDepth 20000 in
theorem i104_91 : ex_ X d 104 91 [v0, v1] [.int x] h Q = Q (some (.int x)) h := ex_ret (show mx_at 104 91 = some (.ireturn, 1) by decide +kernel) (mx_retI rt104)
set_option maxRecDepth 20000 in
theorem i104_92 : ex_ X d 104 92 [.ref a, v1] [] h Q = ex_ X d 104 93 [.ref a, v1] [.ref a] h Q := ex_nx (show mx_at 104 92 = some (.aload_n 0, 1) by decide +kernel) rfl
set_option maxRecDepth 20000 in
theorem i104_93 : ex_ X d 104 93 [v0, v1] [.ref a] h Q = (gk_ h a 1 [(11, 0)] = true ∧ ex_ X d 104 96 [v0, v1] [gv_ h a 1] h Q) := R_getf (show mx_at 104 93 = some (.getfield 21, 3) by decide +kernel) (mx_fdo ow104 fd110021)
set_option maxRecDepth 20000 in
theorem i104_96 : ex_ X d 104 96 [v0, v1] [.ref a] h Q = (gk_ h a 1 [(5, 0)] = true ∧ ex_ X d 104 99 [v0, v1] [gv_ h a 1] h Q) := R_getf (show mx_at 104 96 = some (.getfield 176, 3) by decide +kernel) (mx_fdo ow104 fd110176)
set_option maxRecDepth 20000 in
theorem i104_99 : ex_ X d 104 99 [v0, v1] [.int x] h Q = Q (some (.int x)) h := ex_ret (show mx_at 104 99 = some (.ireturn, 1) by decide +kernel) (mx_retI rt104)
set_option maxRecDepth 20000 in
theorem i104_100 : ex_ X d 104 100 [.ref a, v1] [] h Q = ex_ X d 104 101 [.ref a, v1] [.ref a] h Q := ex_nx (show mx_at 104 100 = some (.aload_n 0, 1) by decide +kernel) rfl
set_option maxRecDepth 20000 in
theorem i104_101 : ex_ X d 104 101 [v0, v1] [.ref a] h Q = (gk_ h a 2 [(11, 0)] = true ∧ ex_ X d 104 104 [v0, v1] [gv_ h a 2] h Q) := R_getf (show mx_at 104 101 = some (.getfield 25, 3) by decide +kernel) (mx_fdo ow104 fd110025)
set_option maxRecDepth 20000 in
theorem i104_104 : ex_ X d 104 104 [v0, v1] [.ref a] h Q = (gk_ h a 1 [(5, 0)] = true ∧ ex_ X d 104 107 [v0, v1] [gv_ h a 1] h Q) := R_getf (show mx_at 104 104 = some (.getfield 176, 3) by decide +kernel) (mx_fdo ow104 fd110176)
set_option maxRecDepth 20000 in
theorem i104_107 : ex_ X d 104 107 [v0, v1] [.int x] h Q = Q (some (.int x)) h := ex_ret (show mx_at 104 107 = some (.ireturn, 1) by decide +kernel) (mx_retI rt104)
set_option maxRecDepth 20000 in
theorem i104_108 : ex_ X d 104 108 [.ref a, v1] [] h Q = ex_ X d 104 109 [.ref a, v1] [.ref a] h Q := ex_nx (show mx_at 104 108 = some (.aload_n 0, 1) by decide +kernel) rfl
set_option maxRecDepth 20000 in
theorem i104_109 : ex_ X d 104 109 [v0, v1] [.ref a] h Q = (gk_ h a 9 [(11, 0)] = true ∧ ex_ X d 104 112 [v0, v1] [gv_ h a 9] h Q) := R_getf (show mx_at 104 109 = some (.getfield 41, 3) by decide +kernel) (mx_fdo ow104 fd110041)
set_option maxRecDepth 20000 in
theorem i104_112 : ex_ X d 104 112 [v0, v1] [.ref a] h Q = (gk_ h a 1 [(5, 0)] = true ∧ ex_ X d 104 115 [v0, v1] [gv_ h a 1] h Q) := R_getf (show mx_at 104 112 = some (.getfield 176, 3) by decide +kernel) (mx_fdo ow104 fd110176)
set_option maxRecDepth 20000 in
theorem i104_115 : ex_ X d 104 115 [v0, v1] [.int x] h Q = Q (some (.int x)) h := ex_ret (show mx_at 104 115 = some (.ireturn, 1) by decide +kernel) (mx_retI rt104)
set_option maxRecDepth 20000 in
theorem i104_116 : ex_ X d 104 116 [.ref a, v1] [] h Q = ex_ X d 104 117 [.ref a, v1] [.ref a] h Q := ex_nx (show mx_at 104 116 = some (.aload_n 0, 1) by decide +kernel) rfl
set_option maxRecDepth 20000 in
theorem i104_117 : ex_ X d 104 117 [v0, v1] [.ref a] h Q = (gk_ h a 3 [(11, 0)] = true ∧ ex_ X d 104 120 [v0, v1] [gv_ h a 3] h Q) := R_getf (show mx_at 104 117 = some (.getfield 28, 3) by decide +kernel) (mx_fdo ow104 fd110028)
set_option maxRecDepth 20000 in
theorem i104_120 : ex_ X d 104 120 [v0, v1] [.int x] h Q = Q (some (.int x)) h := ex_ret (show mx_at 104 120 = some (.ireturn, 1) by decide +kernel) (mx_retI rt104)
set_option maxRecDepth 20000 in
theorem i104_121 : ex_ X d 104 121 [.ref a, v1] [] h Q = ex_ X d 104 122 [.ref a, v1] [.ref a] h Q := ex_nx (show mx_at 104 121 = some (.aload_n 0, 1) by decide +kernel) rfl
set_option maxRecDepth 20000 in
theorem i104_122 : ex_ X d 104 122 [v0, v1] [w0] h Q = ex_ X d 104 123 [v0, v1] [.int 1, w0] h Q := R_iconst (show mx_at 104 122 = some (.iconst 1, 1) by decide +kernel) (by decide)
set_option maxRecDepth 20000 in
theorem i104_123 (hc : co_ h a = some 11) : ex_ X (d + 1) 104 123 [v0, v1] [.int x0, .ref a] h Q = ev_ X d 106 [.ref a, .int x0] h (fun r h' => ex_ X (d + 1) 104 126 [v0, v1] (r.toList ++ []) h' Q) := R_vir (show mx_at 104 123 = some (.invokevirtual 72, 3) by decide +kernel) (mx_clk ow104 cc11_72) (Nat.le_of_ble_eq_true rfl) rfl rfl hc rfl (Nat.le_of_ble_eq_true rfl) (Nat.le_of_ble_eq_true rfl) (by rw [ml106]; exact Nat.le_of_ble_eq_true rfl)
set_option maxRecDepth 20000 in
theorem i104_126 : ex_ X d 104 126 [v0, v1] [.int x] h Q = Q (some (.int x)) h := ex_ret (show mx_at 104 126 = some (.ireturn, 1) by decide +kernel) (mx_retI rt104)
theorem i104_e : ev_ X d 104 [.ref a, .int x0] h Q = ex_ X d 104 0 [.ref a, .int x0] [] h Q := by rw [ev_, ml104]; rfl
-- 105 X11_told
set_option maxRecDepth 20000 in
theorem i105_0 : ex_ X d 105 0 [v0, .int x] [] h Q = ex_ X d 105 1 [v0, .int x] [.int x] h Q := ex_nx (show mx_at 105 0 = some (.iload_n 1, 1) by decide +kernel) rfl
set_option maxRecDepth 20000 in
theorem i105_1 : ex_ X d 105 1 [v0, v1] [w0] h Q = ex_ X d 105 2 [v0, v1] [.int 1, w0] h Q := R_iconst (show mx_at 105 1 = some (.iconst 1, 1) by decide +kernel) (by decide)
set_option maxRecDepth 20000 in
theorem i105_2 : ex_ X d 105 2 [v0, v1] [w0, w1] h Q = ex_ X d 105 3 [v0, v1] [.int 5, w0, w1] h Q := R_iconst (show mx_at 105 2 = some (.iconst 5, 1) by decide +kernel) (by decide)
set_option maxRecDepth 20000 in
theorem i105_3 : ex_ X (d + 1) 105 3 [v0, v1] [.int x2, .int x1, .int x0] h Q = ev_ X d 107 [.int x0, .int x1, .int x2] h (fun r h' => ex_ X (d + 1) 105 6 [v0, v1] (r.toList ++ []) h' Q) := R_stat (show mx_at 105 3 = some (.invokestatic 68, 3) by decide +kernel) (mx_clk ow105 cc11_68) (Nat.le_of_ble_eq_true rfl) rfl rfl (Nat.le_of_ble_eq_true rfl) ml107 (Nat.le_of_ble_eq_true rfl)
set_option maxRecDepth 20000 in
theorem i105_6 : ex_ X d 105 6 [v0, v1] [.int x] h Q = if x = 0 then ex_ X d 105 18 [v0, v1] [] h Q else ex_ X d 105 9 [v0, v1] [] h Q := (R_br (show mx_at 105 6 = some (.ifCond .eq 12, 3) by decide +kernel) rfl rfl).trans mx_ite
set_option maxRecDepth 20000 in
theorem i105_9 : ex_ X d 105 9 [.ref a, v1] [] h Q = ex_ X d 105 10 [.ref a, v1] [.ref a] h Q := ex_nx (show mx_at 105 9 = some (.aload_n 0, 1) by decide +kernel) rfl
set_option maxRecDepth 20000 in
theorem i105_10 : ex_ X d 105 10 [v0, v1] [.ref a] h Q = (gk_ h a 11 [(11, 0)] = true ∧ ex_ X d 105 13 [v0, v1] [gv_ h a 11] h Q) := R_getf (show mx_at 105 10 = some (.getfield 50, 3) by decide +kernel) (mx_fdo ow105 fd110050)
set_option maxRecDepth 20000 in
theorem i105_13 : ex_ X d 105 13 [v0, .int x] [w0] h Q = ex_ X d 105 14 [v0, .int x] [.int x, w0] h Q := ex_nx (show mx_at 105 13 = some (.iload_n 1, 1) by decide +kernel) rfl
set_option maxRecDepth 20000 in
theorem i105_14 : ex_ X d 105 14 [v0, v1] [.int i, .ref a] h Q = (ik_ h a i = true ∧ ex_ X d 105 15 [v0, v1] [.int (ia_ h a i)] h Q) := R_iald (show mx_at 105 14 = some (.iaload, 1) by decide +kernel)
set_option maxRecDepth 20000 in
theorem i105_15 : ex_ X d 105 15 [v0, v1] [w0] h Q = ex_ X d 105 23 [v0, v1] [w0] h Q := R_to (show mx_at 105 15 = some (.goto 8, 3) by decide +kernel) rfl rfl
set_option maxRecDepth 20000 in
theorem i105_18 : ex_ X d 105 18 [.ref a, v1] [] h Q = ex_ X d 105 19 [.ref a, v1] [.ref a] h Q := ex_nx (show mx_at 105 18 = some (.aload_n 0, 1) by decide +kernel) rfl
set_option maxRecDepth 20000 in
theorem i105_19 : ex_ X d 105 19 [v0, v1] [w0] h Q = ex_ X d 105 20 [v0, v1] [.int 1, w0] h Q := R_iconst (show mx_at 105 19 = some (.iconst 1, 1) by decide +kernel) (by decide)
set_option maxRecDepth 20000 in
theorem i105_20 (hc : co_ h a = some 11) : ex_ X (d + 1) 105 20 [v0, v1] [.int x0, .ref a] h Q = ev_ X d 106 [.ref a, .int x0] h (fun r h' => ex_ X (d + 1) 105 23 [v0, v1] (r.toList ++ []) h' Q) := R_vir (show mx_at 105 20 = some (.invokevirtual 72, 3) by decide +kernel) (mx_clk ow105 cc11_72) (Nat.le_of_ble_eq_true rfl) rfl rfl hc rfl (Nat.le_of_ble_eq_true rfl) (Nat.le_of_ble_eq_true rfl) (by rw [ml106]; exact Nat.le_of_ble_eq_true rfl)
set_option maxRecDepth 20000 in
theorem i105_23 : ex_ X d 105 23 [v0, v1] [.int x] h Q = Q (some (.int x)) h := ex_ret (show mx_at 105 23 = some (.ireturn, 1) by decide +kernel) (mx_retI rt105)
theorem i105_e : ev_ X d 105 [.ref a, .int x0] h Q = ex_ X d 105 0 [.ref a, .int x0] [] h Q := by rw [ev_, ml105]; rfl
-- 106 X11_error
set_option maxRecDepth 20000 in
theorem i106_0 : ex_ X d 106 0 [.ref a, v1] [] h Q = ex_ X d 106 1 [.ref a, v1] [.ref a] h Q := ex_nx (show mx_at 106 0 = some (.aload_n 0, 1) by decide +kernel) rfl
set_option maxRecDepth 20000 in
theorem i106_1 : ex_ X d 106 1 [v0, v1] [.ref a] h Q = (gk_ h a 11 [(11, 0)] = true ∧ ex_ X d 106 4 [v0, v1] [gv_ h a 11] h Q) := R_getf (show mx_at 106 1 = some (.getfield 50, 3) by decide +kernel) (mx_fdo ow106 fd110050)
set_option maxRecDepth 20000 in
theorem i106_4 : ex_ X d 106 4 [v0, .int x] [w0] h Q = ex_ X d 106 5 [v0, .int x] [.int x, w0] h Q := ex_nx (show mx_at 106 4 = some (.iload_n 1, 1) by decide +kernel) rfl
set_option maxRecDepth 20000 in
theorem i106_5 : ex_ X d 106 5 [v0, v1] [.int x, .ref a] h Q = ex_ X d 106 6 [v0, v1] [.int x, .ref a, .int x, .ref a] h Q := ex_nx (show mx_at 106 5 = some (.dup2, 1) by decide +kernel) rfl
set_option maxRecDepth 20000 in
theorem i106_6 : ex_ X d 106 6 [v0, v1] [.int i, .ref a, w0, w1] h Q = (ik_ h a i = true ∧ ex_ X d 106 7 [v0, v1] [.int (ia_ h a i), w0, w1] h Q) := R_iald (show mx_at 106 6 = some (.iaload, 1) by decide +kernel)
set_option maxRecDepth 20000 in
theorem i106_7 : ex_ X d 106 7 [v0, v1] [w0, w1, w2] h Q = ex_ X d 106 8 [v0, v1] [.int 1, w0, w1, w2] h Q := R_iconst (show mx_at 106 7 = some (.iconst 1, 1) by decide +kernel) (by decide)
set_option maxRecDepth 20000 in
theorem i106_8 : ex_ X d 106 8 [v0, v1] [.int y, .int x, w0, w1] h Q = ex_ X d 106 9 [v0, v1] [.int (x + y), w0, w1] h Q := ex_nx (show mx_at 106 8 = some (.iadd, 1) by decide +kernel) rfl
set_option maxRecDepth 20000 in
theorem i106_9 : ex_ X d 106 9 [v0, v1] [.int x, .int i, .ref a] h Q = (ik_ h a i = true ∧ ex_ X d 106 10 [v0, v1] [] (is_ h a i x) Q) := R_iast (show mx_at 106 9 = some (.iastore, 1) by decide +kernel)
set_option maxRecDepth 20000 in
theorem i106_10 : ex_ X d 106 10 [v0, v1] [] h Q = ex_ X d 106 13 [v0, v1] [.int (-1000000000)] h Q := R_ldcw (show mx_at 106 10 = some (.ldc_w 299, 3) by decide +kernel) ow106 ki110299
set_option maxRecDepth 20000 in
theorem i106_13 : ex_ X d 106 13 [v0, .int x] [w0] h Q = ex_ X d 106 14 [v0, .int x] [.int x, w0] h Q := ex_nx (show mx_at 106 13 = some (.iload_n 1, 1) by decide +kernel) rfl
set_option maxRecDepth 20000 in
theorem i106_14 : ex_ X d 106 14 [v0, v1] [.int y, .int x] h Q = ex_ X d 106 15 [v0, v1] [.int (x - y)] h Q := ex_nx (show mx_at 106 14 = some (.isub, 1) by decide +kernel) rfl
set_option maxRecDepth 20000 in
theorem i106_15 : ex_ X d 106 15 [v0, v1] [.int x] h Q = Q (some (.int x)) h := ex_ret (show mx_at 106 15 = some (.ireturn, 1) by decide +kernel) (mx_retI rt106)
theorem i106_e : ev_ X d 106 [.ref a, .int x0] h Q = ex_ X d 106 0 [.ref a, .int x0] [] h Q := by rw [ev_, ml106]; rfl
-- 107 X11_isWithin
set_option maxRecDepth 20000 in
theorem i107_0 : ex_ X d 107 0 [.int x, v1, v2] [] h Q = ex_ X d 107 1 [.int x, v1, v2] [.int x] h Q := ex_nx (show mx_at 107 0 = some (.iload_n 0, 1) by decide +kernel) rfl
set_option maxRecDepth 20000 in
theorem i107_1 : ex_ X d 107 1 [v0, .int x, v2] [w0] h Q = ex_ X d 107 2 [v0, .int x, v2] [.int x, w0] h Q := ex_nx (show mx_at 107 1 = some (.iload_n 1, 1) by decide +kernel) rfl
set_option maxRecDepth 20000 in
theorem i107_2 : ex_ X d 107 2 [v0, v1, v2] [.int y, .int x] h Q = if x < y then ex_ X d 107 14 [v0, v1, v2] [] h Q else ex_ X d 107 5 [v0, v1, v2] [] h Q := (R_br (show mx_at 107 2 = some (.if_icmp .lt 12, 3) by decide +kernel) rfl rfl).trans mx_ite
set_option maxRecDepth 20000 in
theorem i107_5 : ex_ X d 107 5 [.int x, v1, v2] [] h Q = ex_ X d 107 6 [.int x, v1, v2] [.int x] h Q := ex_nx (show mx_at 107 5 = some (.iload_n 0, 1) by decide +kernel) rfl
set_option maxRecDepth 20000 in
theorem i107_6 : ex_ X d 107 6 [v0, v1, .int x] [w0] h Q = ex_ X d 107 7 [v0, v1, .int x] [.int x, w0] h Q := ex_nx (show mx_at 107 6 = some (.iload_n 2, 1) by decide +kernel) rfl
set_option maxRecDepth 20000 in
theorem i107_7 : ex_ X d 107 7 [v0, v1, v2] [.int y, .int x] h Q = if y < x then ex_ X d 107 14 [v0, v1, v2] [] h Q else ex_ X d 107 10 [v0, v1, v2] [] h Q := (R_br (show mx_at 107 7 = some (.if_icmp .gt 7, 3) by decide +kernel) rfl rfl).trans mx_ite
set_option maxRecDepth 20000 in
theorem i107_10 : ex_ X d 107 10 [v0, v1, v2] [] h Q = ex_ X d 107 11 [v0, v1, v2] [.int 1] h Q := R_iconst (show mx_at 107 10 = some (.iconst 1, 1) by decide +kernel) (by decide)
set_option maxRecDepth 20000 in
theorem i107_11 : ex_ X d 107 11 [v0, v1, v2] [w0] h Q = ex_ X d 107 15 [v0, v1, v2] [w0] h Q := R_to (show mx_at 107 11 = some (.goto 4, 3) by decide +kernel) rfl rfl
set_option maxRecDepth 20000 in
theorem i107_14 : ex_ X d 107 14 [v0, v1, v2] [] h Q = ex_ X d 107 15 [v0, v1, v2] [.int 0] h Q := R_iconst (show mx_at 107 14 = some (.iconst 0, 1) by decide +kernel) (by decide)
set_option maxRecDepth 20000 in
theorem i107_15 (hx : x = 0 ∨ x = 1) : ex_ X d 107 15 [v0, v1, v2] [.int x] h Q = Q (some (.int x)) h := ex_ret (show mx_at 107 15 = some (.ireturn, 1) by decide +kernel) (mx_retZ hx rt107)
theorem i107_e : ev_ X d 107 [.int x0, .int x1, .int x2] h Q = ex_ X d 107 0 [.int x0, .int x1, .int x2] [] h Q := by rw [ev_, ml107]; rfl
-- 108 X11_isSeller
set_option maxRecDepth 20000 in
theorem i108_0 : ex_ X d 108 0 [v0, .int x] [] h Q = ex_ X d 108 1 [v0, .int x] [.int x] h Q := ex_nx (show mx_at 108 0 = some (.iload_n 1, 1) by decide +kernel) rfl
set_option maxRecDepth 20000 in
theorem i108_1 : ex_ X d 108 1 [v0, v1] [w0] h Q = ex_ X d 108 2 [v0, v1] [.int 0, w0] h Q := R_iconst (show mx_at 108 1 = some (.iconst 0, 1) by decide +kernel) (by decide)
set_option maxRecDepth 20000 in
theorem i108_2 : ex_ X d 108 2 [.ref a, v1] [w0, w1] h Q = ex_ X d 108 3 [.ref a, v1] [.ref a, w0, w1] h Q := ex_nx (show mx_at 108 2 = some (.aload_n 0, 1) by decide +kernel) rfl
set_option maxRecDepth 20000 in
theorem i108_3 : ex_ X d 108 3 [v0, v1] [.ref a, w0, w1] h Q = (gk_ h a 0 [(11, 0)] = true ∧ ex_ X d 108 6 [v0, v1] [gv_ h a 0, w0, w1] h Q) := R_getf (show mx_at 108 3 = some (.getfield 12, 3) by decide +kernel) (mx_fdo ow108 fd110012)
set_option maxRecDepth 20000 in
theorem i108_6 : ex_ X d 108 6 [v0, v1] [.ref a, w0, w1] h Q = (gk_ h a 7 [(3, 0)] = true ∧ ex_ X d 108 9 [v0, v1] [gv_ h a 7, w0, w1] h Q) := R_getf (show mx_at 108 6 = some (.getfield 76, 3) by decide +kernel) (mx_fdo ow108 fd110076)
set_option maxRecDepth 20000 in
theorem i108_9 : ex_ X d 108 9 [v0, v1] [w0, w1, w2] h Q = ex_ X d 108 10 [v0, v1] [.int 1, w0, w1, w2] h Q := R_iconst (show mx_at 108 9 = some (.iconst 1, 1) by decide +kernel) (by decide)
set_option maxRecDepth 20000 in
theorem i108_10 : ex_ X d 108 10 [v0, v1] [.int y, .int x, w0, w1] h Q = ex_ X d 108 11 [v0, v1] [.int (x - y), w0, w1] h Q := ex_nx (show mx_at 108 10 = some (.isub, 1) by decide +kernel) rfl
set_option maxRecDepth 20000 in
theorem i108_11 : ex_ X (d + 1) 108 11 [v0, v1] [.int x2, .int x1, .int x0] h Q = ev_ X d 107 [.int x0, .int x1, .int x2] h (fun r h' => ex_ X (d + 1) 108 14 [v0, v1] (r.toList ++ []) h' Q) := R_stat (show mx_at 108 11 = some (.invokestatic 68, 3) by decide +kernel) (mx_clk ow108 cc11_68) (Nat.le_of_ble_eq_true rfl) rfl rfl (Nat.le_of_ble_eq_true rfl) ml107 (Nat.le_of_ble_eq_true rfl)
set_option maxRecDepth 20000 in
theorem i108_14 (hx : x = 0 ∨ x = 1) : ex_ X d 108 14 [v0, v1] [.int x] h Q = Q (some (.int x)) h := ex_ret (show mx_at 108 14 = some (.ireturn, 1) by decide +kernel) (mx_retZ hx rt108)
theorem i108_e : ev_ X d 108 [.ref a, .int x0] h Q = ex_ X d 108 0 [.ref a, .int x0] [] h Q := by rw [ev_, ml108]; rfl
-- 109 X11_isSort
set_option maxRecDepth 20000 in
theorem i109_0 : ex_ X d 109 0 [v0, .int x] [] h Q = ex_ X d 109 1 [v0, .int x] [.int x] h Q := ex_nx (show mx_at 109 0 = some (.iload_n 1, 1) by decide +kernel) rfl
set_option maxRecDepth 20000 in
theorem i109_1 : ex_ X d 109 1 [v0, v1] [w0] h Q = ex_ X d 109 2 [v0, v1] [.int 0, w0] h Q := R_iconst (show mx_at 109 1 = some (.iconst 0, 1) by decide +kernel) (by decide)
set_option maxRecDepth 20000 in
theorem i109_2 : ex_ X d 109 2 [.ref a, v1] [w0, w1] h Q = ex_ X d 109 3 [.ref a, v1] [.ref a, w0, w1] h Q := ex_nx (show mx_at 109 2 = some (.aload_n 0, 1) by decide +kernel) rfl
set_option maxRecDepth 20000 in
theorem i109_3 : ex_ X d 109 3 [v0, v1] [.ref a, w0, w1] h Q = (gk_ h a 0 [(11, 0)] = true ∧ ex_ X d 109 6 [v0, v1] [gv_ h a 0, w0, w1] h Q) := R_getf (show mx_at 109 3 = some (.getfield 12, 3) by decide +kernel) (mx_fdo ow109 fd110012)
set_option maxRecDepth 20000 in
theorem i109_6 : ex_ X d 109 6 [v0, v1] [.ref a, w0, w1] h Q = (gk_ h a 12 [(3, 0)] = true ∧ ex_ X d 109 9 [v0, v1] [gv_ h a 12, w0, w1] h Q) := R_getf (show mx_at 109 6 = some (.getfield 127, 3) by decide +kernel) (mx_fdo ow109 fd110127)
set_option maxRecDepth 20000 in
theorem i109_9 : ex_ X d 109 9 [v0, v1] [w0, w1, w2] h Q = ex_ X d 109 10 [v0, v1] [.int 1, w0, w1, w2] h Q := R_iconst (show mx_at 109 9 = some (.iconst 1, 1) by decide +kernel) (by decide)
set_option maxRecDepth 20000 in
theorem i109_10 : ex_ X d 109 10 [v0, v1] [.int y, .int x, w0, w1] h Q = ex_ X d 109 11 [v0, v1] [.int (x - y), w0, w1] h Q := ex_nx (show mx_at 109 10 = some (.isub, 1) by decide +kernel) rfl
set_option maxRecDepth 20000 in
theorem i109_11 : ex_ X (d + 1) 109 11 [v0, v1] [.int x2, .int x1, .int x0] h Q = ev_ X d 107 [.int x0, .int x1, .int x2] h (fun r h' => ex_ X (d + 1) 109 14 [v0, v1] (r.toList ++ []) h' Q) := R_stat (show mx_at 109 11 = some (.invokestatic 68, 3) by decide +kernel) (mx_clk ow109 cc11_68) (Nat.le_of_ble_eq_true rfl) rfl rfl (Nat.le_of_ble_eq_true rfl) ml107 (Nat.le_of_ble_eq_true rfl)
set_option maxRecDepth 20000 in
theorem i109_14 (hx : x = 0 ∨ x = 1) : ex_ X d 109 14 [v0, v1] [.int x] h Q = Q (some (.int x)) h := ex_ret (show mx_at 109 14 = some (.ireturn, 1) by decide +kernel) (mx_retZ hx rt109)
theorem i109_e : ev_ X d 109 [.ref a, .int x0] h Q = ex_ X d 109 0 [.ref a, .int x0] [] h Q := by rw [ev_, ml109]; rfl
-- 110 X11_isSheet
set_option maxRecDepth 20000 in
theorem i110_0 : ex_ X d 110 0 [.int x] [] h Q = ex_ X d 110 1 [.int x] [.int x] h Q := ex_nx (show mx_at 110 0 = some (.iload_n 0, 1) by decide +kernel) rfl
set_option maxRecDepth 20000 in
theorem i110_1 : ex_ X d 110 1 [v0] [w0] h Q = ex_ X d 110 2 [v0] [.int 0, w0] h Q := R_iconst (show mx_at 110 1 = some (.iconst 0, 1) by decide +kernel) (by decide)
set_option maxRecDepth 20000 in
theorem i110_2 : ex_ X d 110 2 [v0] [w0, w1] h Q = ex_ X d 110 3 [v0] [.int 3, w0, w1] h Q := R_iconst (show mx_at 110 2 = some (.iconst 3, 1) by decide +kernel) (by decide)
set_option maxRecDepth 20000 in
theorem i110_3 : ex_ X (d + 1) 110 3 [v0] [.int x2, .int x1, .int x0] h Q = ev_ X d 107 [.int x0, .int x1, .int x2] h (fun r h' => ex_ X (d + 1) 110 6 [v0] (r.toList ++ []) h' Q) := R_stat (show mx_at 110 3 = some (.invokestatic 68, 3) by decide +kernel) (mx_clk ow110 cc11_68) (Nat.le_of_ble_eq_true rfl) rfl rfl (Nat.le_of_ble_eq_true rfl) ml107 (Nat.le_of_ble_eq_true rfl)
set_option maxRecDepth 20000 in
theorem i110_6 (hx : x = 0 ∨ x = 1) : ex_ X d 110 6 [v0] [.int x] h Q = Q (some (.int x)) h := ex_ret (show mx_at 110 6 = some (.ireturn, 1) by decide +kernel) (mx_retZ hx rt110)
theorem i110_e : ev_ X d 110 [.int x0] h Q = ex_ X d 110 0 [.int x0] [] h Q := by rw [ev_, ml110]; rfl
-- 111 X11_isUse
set_option maxRecDepth 20000 in
theorem i111_0 : ex_ X d 111 0 [.int x] [] h Q = ex_ X d 111 1 [.int x] [.int x] h Q := ex_nx (show mx_at 111 0 = some (.iload_n 0, 1) by decide +kernel) rfl
set_option maxRecDepth 20000 in
theorem i111_1 : ex_ X d 111 1 [v0] [w0] h Q = ex_ X d 111 2 [v0] [.int 0, w0] h Q := R_iconst (show mx_at 111 1 = some (.iconst 0, 1) by decide +kernel) (by decide)
set_option maxRecDepth 20000 in
theorem i111_2 : ex_ X d 111 2 [v0] [w0, w1] h Q = ex_ X d 111 3 [v0] [.int 1, w0, w1] h Q := R_iconst (show mx_at 111 2 = some (.iconst 1, 1) by decide +kernel) (by decide)
set_option maxRecDepth 20000 in
theorem i111_3 : ex_ X (d + 1) 111 3 [v0] [.int x2, .int x1, .int x0] h Q = ev_ X d 107 [.int x0, .int x1, .int x2] h (fun r h' => ex_ X (d + 1) 111 6 [v0] (r.toList ++ []) h' Q) := R_stat (show mx_at 111 3 = some (.invokestatic 68, 3) by decide +kernel) (mx_clk ow111 cc11_68) (Nat.le_of_ble_eq_true rfl) rfl rfl (Nat.le_of_ble_eq_true rfl) ml107 (Nat.le_of_ble_eq_true rfl)
set_option maxRecDepth 20000 in
theorem i111_6 (hx : x = 0 ∨ x = 1) : ex_ X d 111 6 [v0] [.int x] h Q = Q (some (.int x)) h := ex_ret (show mx_at 111 6 = some (.ireturn, 1) by decide +kernel) (mx_retZ hx rt111)
theorem i111_e : ev_ X d 111 [.int x0] h Q = ex_ X d 111 0 [.int x0] [] h Q := by rw [ev_, ml111]; rfl
-- 112 X11_isAhead
set_option maxRecDepth 20000 in
theorem i112_0 : ex_ X d 112 0 [.int x] [] h Q = ex_ X d 112 1 [.int x] [.int x] h Q := ex_nx (show mx_at 112 0 = some (.iload_n 0, 1) by decide +kernel) rfl
set_option maxRecDepth 20000 in
theorem i112_1 : ex_ X d 112 1 [v0] [w0] h Q = ex_ X d 112 2 [v0] [.int 0, w0] h Q := R_iconst (show mx_at 112 1 = some (.iconst 0, 1) by decide +kernel) (by decide)
set_option maxRecDepth 20000 in
theorem i112_2 : ex_ X d 112 2 [v0] [w0, w1] h Q = ex_ X d 112 4 [v0] [.int 60, w0, w1] h Q := R_bipush (show mx_at 112 2 = some (.bipush 60, 2) by decide +kernel) (by decide)
set_option maxRecDepth 20000 in
theorem i112_4 : ex_ X (d + 1) 112 4 [v0] [.int x2, .int x1, .int x0] h Q = ev_ X d 107 [.int x0, .int x1, .int x2] h (fun r h' => ex_ X (d + 1) 112 7 [v0] (r.toList ++ []) h' Q) := R_stat (show mx_at 112 4 = some (.invokestatic 68, 3) by decide +kernel) (mx_clk ow112 cc11_68) (Nat.le_of_ble_eq_true rfl) rfl rfl (Nat.le_of_ble_eq_true rfl) ml107 (Nat.le_of_ble_eq_true rfl)
set_option maxRecDepth 20000 in
theorem i112_7 (hx : x = 0 ∨ x = 1) : ex_ X d 112 7 [v0] [.int x] h Q = Q (some (.int x)) h := ex_ret (show mx_at 112 7 = some (.ireturn, 1) by decide +kernel) (mx_retZ hx rt112)
theorem i112_e : ev_ X d 112 [.int x0] h Q = ex_ X d 112 0 [.int x0] [] h Q := by rw [ev_, ml112]; rfl
-- 113 X11_isBits
set_option maxRecDepth 20000 in
theorem i113_0 : ex_ X d 113 0 [.int x] [] h Q = ex_ X d 113 1 [.int x] [.int x] h Q := ex_nx (show mx_at 113 0 = some (.iload_n 0, 1) by decide +kernel) rfl
set_option maxRecDepth 20000 in
theorem i113_1 : ex_ X d 113 1 [v0] [.int x] h Q = if x = 0 then ex_ X d 113 22 [v0] [] h Q else ex_ X d 113 4 [v0] [] h Q := (R_br (show mx_at 113 1 = some (.ifCond .eq 21, 3) by decide +kernel) rfl rfl).trans mx_ite
set_option maxRecDepth 20000 in
theorem i113_4 : ex_ X d 113 4 [.int x] [] h Q = ex_ X d 113 5 [.int x] [.int x] h Q := ex_nx (show mx_at 113 4 = some (.iload_n 0, 1) by decide +kernel) rfl
set_option maxRecDepth 20000 in
theorem i113_5 : ex_ X d 113 5 [v0] [w0] h Q = ex_ X d 113 7 [v0] [.int 8, w0] h Q := R_bipush (show mx_at 113 5 = some (.bipush 8, 2) by decide +kernel) (by decide)
set_option maxRecDepth 20000 in
theorem i113_7 : ex_ X d 113 7 [v0] [.int y, .int x] h Q = if x = y then ex_ X d 113 22 [v0] [] h Q else ex_ X d 113 10 [v0] [] h Q := (R_br (show mx_at 113 7 = some (.if_icmp .eq 15, 3) by decide +kernel) rfl rfl).trans mx_ite
set_option maxRecDepth 20000 in
theorem i113_10 : ex_ X d 113 10 [.int x] [] h Q = ex_ X d 113 11 [.int x] [.int x] h Q := ex_nx (show mx_at 113 10 = some (.iload_n 0, 1) by decide +kernel) rfl
set_option maxRecDepth 20000 in
theorem i113_11 : ex_ X d 113 11 [v0] [w0] h Q = ex_ X d 113 13 [v0] [.int 16, w0] h Q := R_bipush (show mx_at 113 11 = some (.bipush 16, 2) by decide +kernel) (by decide)
set_option maxRecDepth 20000 in
theorem i113_13 : ex_ X d 113 13 [v0] [.int y, .int x] h Q = if x = y then ex_ X d 113 22 [v0] [] h Q else ex_ X d 113 16 [v0] [] h Q := (R_br (show mx_at 113 13 = some (.if_icmp .eq 9, 3) by decide +kernel) rfl rfl).trans mx_ite
set_option maxRecDepth 20000 in
theorem i113_16 : ex_ X d 113 16 [.int x] [] h Q = ex_ X d 113 17 [.int x] [.int x] h Q := ex_nx (show mx_at 113 16 = some (.iload_n 0, 1) by decide +kernel) rfl
set_option maxRecDepth 20000 in
theorem i113_17 : ex_ X d 113 17 [v0] [w0] h Q = ex_ X d 113 19 [v0] [.int 32, w0] h Q := R_bipush (show mx_at 113 17 = some (.bipush 32, 2) by decide +kernel) (by decide)
set_option maxRecDepth 20000 in
theorem i113_19 : ex_ X d 113 19 [v0] [.int y, .int x] h Q = if ¬ x = y then ex_ X d 113 26 [v0] [] h Q else ex_ X d 113 22 [v0] [] h Q := (R_br (show mx_at 113 19 = some (.if_icmp .ne 7, 3) by decide +kernel) rfl rfl).trans mx_ite
set_option maxRecDepth 20000 in
theorem i113_22 : ex_ X d 113 22 [v0] [] h Q = ex_ X d 113 23 [v0] [.int 1] h Q := R_iconst (show mx_at 113 22 = some (.iconst 1, 1) by decide +kernel) (by decide)
set_option maxRecDepth 20000 in
theorem i113_23 : ex_ X d 113 23 [v0] [w0] h Q = ex_ X d 113 27 [v0] [w0] h Q := R_to (show mx_at 113 23 = some (.goto 4, 3) by decide +kernel) rfl rfl
set_option maxRecDepth 20000 in
theorem i113_26 : ex_ X d 113 26 [v0] [] h Q = ex_ X d 113 27 [v0] [.int 0] h Q := R_iconst (show mx_at 113 26 = some (.iconst 0, 1) by decide +kernel) (by decide)
set_option maxRecDepth 20000 in
theorem i113_27 (hx : x = 0 ∨ x = 1) : ex_ X d 113 27 [v0] [.int x] h Q = Q (some (.int x)) h := ex_ret (show mx_at 113 27 = some (.ireturn, 1) by decide +kernel) (mx_retZ hx rt113)
theorem i113_e : ev_ X d 113 [.int x0] h Q = ex_ X d 113 0 [.int x0] [] h Q := by rw [ev_, ml113]; rfl
-- 114 X11_fitsSort
set_option maxRecDepth 20000 in
theorem i114_0 : ex_ X d 114 0 [.int x, v1, v2] [] h Q = ex_ X d 114 1 [.int x, v1, v2] [.int x] h Q := ex_nx (show mx_at 114 0 = some (.iload_n 0, 1) by decide +kernel) rfl
set_option maxRecDepth 20000 in
theorem i114_1 : ex_ X d 114 1 [v0, v1, v2] [w0] h Q = ex_ X d 114 2 [v0, v1, v2] [.int 0, w0] h Q := R_iconst (show mx_at 114 1 = some (.iconst 0, 1) by decide +kernel) (by decide)
set_option maxRecDepth 20000 in
theorem i114_2 : ex_ X d 114 2 [v0, v1, v2] [w0, w1] h Q = ex_ X d 114 4 [v0, v1, v2] [.int 9, w0, w1] h Q := R_bipush (show mx_at 114 2 = some (.bipush 9, 2) by decide +kernel) (by decide)
set_option maxRecDepth 20000 in
theorem i114_4 : ex_ X (d + 1) 114 4 [v0, v1, v2] [.int x2, .int x1, .int x0] h Q = ev_ X d 107 [.int x0, .int x1, .int x2] h (fun r h' => ex_ X (d + 1) 114 7 [v0, v1, v2] (r.toList ++ []) h' Q) := R_stat (show mx_at 114 4 = some (.invokestatic 68, 3) by decide +kernel) (mx_clk ow114 cc11_68) (Nat.le_of_ble_eq_true rfl) rfl rfl (Nat.le_of_ble_eq_true rfl) ml107 (Nat.le_of_ble_eq_true rfl)
set_option maxRecDepth 20000 in
theorem i114_7 : ex_ X d 114 7 [v0, v1, v2] [.int x] h Q = if x = 0 then ex_ X d 114 35 [v0, v1, v2] [] h Q else ex_ X d 114 10 [v0, v1, v2] [] h Q := (R_br (show mx_at 114 7 = some (.ifCond .eq 28, 3) by decide +kernel) rfl rfl).trans mx_ite
set_option maxRecDepth 20000 in
theorem i114_10 : ex_ X d 114 10 [v0, .int x, v2] [] h Q = ex_ X d 114 11 [v0, .int x, v2] [.int x] h Q := ex_nx (show mx_at 114 10 = some (.iload_n 1, 1) by decide +kernel) rfl
set_option maxRecDepth 20000 in
theorem i114_11 : ex_ X d 114 11 [v0, v1, v2] [w0] h Q = ex_ X d 114 12 [v0, v1, v2] [.int 0, w0] h Q := R_iconst (show mx_at 114 11 = some (.iconst 0, 1) by decide +kernel) (by decide)
set_option maxRecDepth 20000 in
theorem i114_12 : ex_ X d 114 12 [v0, v1, v2] [w0, w1] h Q = ex_ X d 114 15 [v0, v1, v2] [.int 999, w0, w1] h Q := R_sipush (show mx_at 114 12 = some (.sipush 999, 3) by decide +kernel) (by decide)
set_option maxRecDepth 20000 in
theorem i114_15 : ex_ X (d + 1) 114 15 [v0, v1, v2] [.int x2, .int x1, .int x0] h Q = ev_ X d 107 [.int x0, .int x1, .int x2] h (fun r h' => ex_ X (d + 1) 114 18 [v0, v1, v2] (r.toList ++ []) h' Q) := R_stat (show mx_at 114 15 = some (.invokestatic 68, 3) by decide +kernel) (mx_clk ow114 cc11_68) (Nat.le_of_ble_eq_true rfl) rfl rfl (Nat.le_of_ble_eq_true rfl) ml107 (Nat.le_of_ble_eq_true rfl)
set_option maxRecDepth 20000 in
theorem i114_18 : ex_ X d 114 18 [v0, v1, v2] [.int x] h Q = if x = 0 then ex_ X d 114 35 [v0, v1, v2] [] h Q else ex_ X d 114 21 [v0, v1, v2] [] h Q := (R_br (show mx_at 114 18 = some (.ifCond .eq 17, 3) by decide +kernel) rfl rfl).trans mx_ite
set_option maxRecDepth 20000 in
theorem i114_21 : ex_ X d 114 21 [v0, v1, .int x] [] h Q = ex_ X d 114 22 [v0, v1, .int x] [.int x] h Q := ex_nx (show mx_at 114 21 = some (.iload_n 2, 1) by decide +kernel) rfl
set_option maxRecDepth 20000 in
theorem i114_22 : ex_ X d 114 22 [v0, v1, v2] [w0] h Q = ex_ X d 114 23 [v0, v1, v2] [.int 0, w0] h Q := R_iconst (show mx_at 114 22 = some (.iconst 0, 1) by decide +kernel) (by decide)
set_option maxRecDepth 20000 in
theorem i114_23 : ex_ X d 114 23 [v0, v1, v2] [w0, w1] h Q = ex_ X d 114 25 [v0, v1, v2] [.int 9, w0, w1] h Q := R_bipush (show mx_at 114 23 = some (.bipush 9, 2) by decide +kernel) (by decide)
set_option maxRecDepth 20000 in
theorem i114_25 : ex_ X (d + 1) 114 25 [v0, v1, v2] [.int x2, .int x1, .int x0] h Q = ev_ X d 107 [.int x0, .int x1, .int x2] h (fun r h' => ex_ X (d + 1) 114 28 [v0, v1, v2] (r.toList ++ []) h' Q) := R_stat (show mx_at 114 25 = some (.invokestatic 68, 3) by decide +kernel) (mx_clk ow114 cc11_68) (Nat.le_of_ble_eq_true rfl) rfl rfl (Nat.le_of_ble_eq_true rfl) ml107 (Nat.le_of_ble_eq_true rfl)
set_option maxRecDepth 20000 in
theorem i114_28 : ex_ X d 114 28 [v0, v1, v2] [.int x] h Q = if x = 0 then ex_ X d 114 35 [v0, v1, v2] [] h Q else ex_ X d 114 31 [v0, v1, v2] [] h Q := (R_br (show mx_at 114 28 = some (.ifCond .eq 7, 3) by decide +kernel) rfl rfl).trans mx_ite
set_option maxRecDepth 20000 in
theorem i114_31 : ex_ X d 114 31 [v0, v1, v2] [] h Q = ex_ X d 114 32 [v0, v1, v2] [.int 1] h Q := R_iconst (show mx_at 114 31 = some (.iconst 1, 1) by decide +kernel) (by decide)
set_option maxRecDepth 20000 in
theorem i114_32 : ex_ X d 114 32 [v0, v1, v2] [w0] h Q = ex_ X d 114 36 [v0, v1, v2] [w0] h Q := R_to (show mx_at 114 32 = some (.goto 4, 3) by decide +kernel) rfl rfl
set_option maxRecDepth 20000 in
theorem i114_35 : ex_ X d 114 35 [v0, v1, v2] [] h Q = ex_ X d 114 36 [v0, v1, v2] [.int 0] h Q := R_iconst (show mx_at 114 35 = some (.iconst 0, 1) by decide +kernel) (by decide)
set_option maxRecDepth 20000 in
theorem i114_36 (hx : x = 0 ∨ x = 1) : ex_ X d 114 36 [v0, v1, v2] [.int x] h Q = Q (some (.int x)) h := ex_ret (show mx_at 114 36 = some (.ireturn, 1) by decide +kernel) (mx_retZ hx rt114)
theorem i114_e : ev_ X d 114 [.int x0, .int x1, .int x2] h Q = ex_ X d 114 0 [.int x0, .int x1, .int x2] [] h Q := by rw [ev_, ml114]; rfl
-- 115 X11_fitsSeller
set_option maxRecDepth 20000 in
theorem i115_0 : ex_ X d 115 0 [.int x, v1] [] h Q = ex_ X d 115 1 [.int x, v1] [.int x] h Q := ex_nx (show mx_at 115 0 = some (.iload_n 0, 1) by decide +kernel) rfl
set_option maxRecDepth 20000 in
theorem i115_1_0 : ex_ X d 115 1 [v0, v1] [.int 0] h Q = ex_ X d 115 28 [v0, v1] [] h Q := R_tsw (off := 27) (show mx_at 115 1 = some (.tableswitch 55 0 2 #[27, 35, 46], 27) by decide +kernel) (by decide) rfl
set_option maxRecDepth 20000 in
theorem i115_1_1 : ex_ X d 115 1 [v0, v1] [.int 1] h Q = ex_ X d 115 36 [v0, v1] [] h Q := R_tsw (off := 35) (show mx_at 115 1 = some (.tableswitch 55 0 2 #[27, 35, 46], 27) by decide +kernel) (by decide) rfl
set_option maxRecDepth 20000 in
theorem i115_1_2 : ex_ X d 115 1 [v0, v1] [.int 2] h Q = ex_ X d 115 47 [v0, v1] [] h Q := R_tsw (off := 46) (show mx_at 115 1 = some (.tableswitch 55 0 2 #[27, 35, 46], 27) by decide +kernel) (by decide) rfl
set_option maxRecDepth 20000 in
theorem i115_1_d (hx : x.toInt < 0 ∨ 2 < x.toInt) : ex_ X d 115 1 [v0, v1] [.int x] h Q = ex_ X d 115 56 [v0, v1] [] h Q := R_tsw (off := 55) (show mx_at 115 1 = some (.tableswitch 55 0 2 #[27, 35, 46], 27) by decide +kernel) (if_pos hx) rfl
set_option maxRecDepth 20000 in
theorem i115_28 : ex_ X d 115 28 [v0, .int x] [] h Q = ex_ X d 115 29 [v0, .int x] [.int x] h Q := ex_nx (show mx_at 115 28 = some (.iload_n 1, 1) by decide +kernel) rfl
set_option maxRecDepth 20000 in
theorem i115_29 : ex_ X d 115 29 [v0, v1] [w0] h Q = ex_ X d 115 30 [v0, v1] [.int 0, w0] h Q := R_iconst (show mx_at 115 29 = some (.iconst 0, 1) by decide +kernel) (by decide)
set_option maxRecDepth 20000 in
theorem i115_30 : ex_ X d 115 30 [v0, v1] [w0, w1] h Q = ex_ X d 115 32 [v0, v1] [.int 99, w0, w1] h Q := R_bipush (show mx_at 115 30 = some (.bipush 99, 2) by decide +kernel) (by decide)
set_option maxRecDepth 20000 in
theorem i115_32 : ex_ X (d + 1) 115 32 [v0, v1] [.int x2, .int x1, .int x0] h Q = ev_ X d 107 [.int x0, .int x1, .int x2] h (fun r h' => ex_ X (d + 1) 115 35 [v0, v1] (r.toList ++ []) h' Q) := R_stat (show mx_at 115 32 = some (.invokestatic 68, 3) by decide +kernel) (mx_clk ow115 cc11_68) (Nat.le_of_ble_eq_true rfl) rfl rfl (Nat.le_of_ble_eq_true rfl) ml107 (Nat.le_of_ble_eq_true rfl)
set_option maxRecDepth 20000 in
theorem i115_35 (hx : x = 0 ∨ x = 1) : ex_ X d 115 35 [v0, v1] [.int x] h Q = Q (some (.int x)) h := ex_ret (show mx_at 115 35 = some (.ireturn, 1) by decide +kernel) (mx_retZ hx rt115)
set_option maxRecDepth 20000 in
theorem i115_36 : ex_ X d 115 36 [v0, .int x] [] h Q = ex_ X d 115 37 [v0, .int x] [.int x] h Q := ex_nx (show mx_at 115 36 = some (.iload_n 1, 1) by decide +kernel) rfl
set_option maxRecDepth 20000 in
theorem i115_37 : ex_ X d 115 37 [v0, v1] [w0] h Q = ex_ X d 115 40 [v0, v1] [.int (-99999999), w0] h Q := R_ldcw (show mx_at 115 37 = some (.ldc_w 300, 3) by decide +kernel) ow115 ki110300
set_option maxRecDepth 20000 in
theorem i115_40 : ex_ X d 115 40 [v0, v1] [w0, w1] h Q = ex_ X d 115 43 [v0, v1] [.int 99999999, w0, w1] h Q := R_ldcw (show mx_at 115 40 = some (.ldc_w 301, 3) by decide +kernel) ow115 ki110301
set_option maxRecDepth 20000 in
theorem i115_43 : ex_ X (d + 1) 115 43 [v0, v1] [.int x2, .int x1, .int x0] h Q = ev_ X d 107 [.int x0, .int x1, .int x2] h (fun r h' => ex_ X (d + 1) 115 46 [v0, v1] (r.toList ++ []) h' Q) := R_stat (show mx_at 115 43 = some (.invokestatic 68, 3) by decide +kernel) (mx_clk ow115 cc11_68) (Nat.le_of_ble_eq_true rfl) rfl rfl (Nat.le_of_ble_eq_true rfl) ml107 (Nat.le_of_ble_eq_true rfl)
set_option maxRecDepth 20000 in
theorem i115_46 (hx : x = 0 ∨ x = 1) : ex_ X d 115 46 [v0, v1] [.int x] h Q = Q (some (.int x)) h := ex_ret (show mx_at 115 46 = some (.ireturn, 1) by decide +kernel) (mx_retZ hx rt115)
set_option maxRecDepth 20000 in
theorem i115_47 : ex_ X d 115 47 [v0, .int x] [] h Q = ex_ X d 115 48 [v0, .int x] [.int x] h Q := ex_nx (show mx_at 115 47 = some (.iload_n 1, 1) by decide +kernel) rfl
set_option maxRecDepth 20000 in
theorem i115_48 : ex_ X d 115 48 [v0, v1] [w0] h Q = ex_ X d 115 49 [v0, v1] [.int (-1), w0] h Q := R_iconst (show mx_at 115 48 = some (.iconst (-1), 1) by decide +kernel) (by decide)
set_option maxRecDepth 20000 in
theorem i115_49 : ex_ X d 115 49 [v0, v1] [w0, w1] h Q = ex_ X d 115 52 [v0, v1] [.int 999, w0, w1] h Q := R_sipush (show mx_at 115 49 = some (.sipush 999, 3) by decide +kernel) (by decide)
set_option maxRecDepth 20000 in
theorem i115_52 : ex_ X (d + 1) 115 52 [v0, v1] [.int x2, .int x1, .int x0] h Q = ev_ X d 107 [.int x0, .int x1, .int x2] h (fun r h' => ex_ X (d + 1) 115 55 [v0, v1] (r.toList ++ []) h' Q) := R_stat (show mx_at 115 52 = some (.invokestatic 68, 3) by decide +kernel) (mx_clk ow115 cc11_68) (Nat.le_of_ble_eq_true rfl) rfl rfl (Nat.le_of_ble_eq_true rfl) ml107 (Nat.le_of_ble_eq_true rfl)
set_option maxRecDepth 20000 in
theorem i115_55 (hx : x = 0 ∨ x = 1) : ex_ X d 115 55 [v0, v1] [.int x] h Q = Q (some (.int x)) h := ex_ret (show mx_at 115 55 = some (.ireturn, 1) by decide +kernel) (mx_retZ hx rt115)
set_option maxRecDepth 20000 in
theorem i115_56 : ex_ X d 115 56 [v0, v1] [] h Q = ex_ X d 115 57 [v0, v1] [.int 0] h Q := R_iconst (show mx_at 115 56 = some (.iconst 0, 1) by decide +kernel) (by decide)
set_option maxRecDepth 20000 in
theorem i115_57 (hx : x = 0 ∨ x = 1) : ex_ X d 115 57 [v0, v1] [.int x] h Q = Q (some (.int x)) h := ex_ret (show mx_at 115 57 = some (.ireturn, 1) by decide +kernel) (mx_retZ hx rt115)
theorem i115_e : ev_ X d 115 [.int x0, .int x1] h Q = ex_ X d 115 0 [.int x0, .int x1] [] h Q := by rw [ev_, ml115]; rfl
-- 116 X11_fitsNow
set_option maxRecDepth 20000 in
theorem i116_0 : ex_ X d 116 0 [.int x, v1] [] h Q = ex_ X d 116 1 [.int x, v1] [.int x] h Q := ex_nx (show mx_at 116 0 = some (.iload_n 0, 1) by decide +kernel) rfl
set_option maxRecDepth 20000 in
theorem i116_1_0 : ex_ X d 116 1 [v0, v1] [.int 0] h Q = ex_ X d 116 36 [v0, v1] [] h Q := R_tsw (off := 35) (show mx_at 116 1 = some (.tableswitch 59 0 4 #[35, 42, 42, 42, 50], 35) by decide +kernel) (by decide) rfl
set_option maxRecDepth 20000 in
theorem i116_1_1 : ex_ X d 116 1 [v0, v1] [.int 1] h Q = ex_ X d 116 43 [v0, v1] [] h Q := R_tsw (off := 42) (show mx_at 116 1 = some (.tableswitch 59 0 4 #[35, 42, 42, 42, 50], 35) by decide +kernel) (by decide) rfl
set_option maxRecDepth 20000 in
theorem i116_1_2 : ex_ X d 116 1 [v0, v1] [.int 2] h Q = ex_ X d 116 43 [v0, v1] [] h Q := R_tsw (off := 42) (show mx_at 116 1 = some (.tableswitch 59 0 4 #[35, 42, 42, 42, 50], 35) by decide +kernel) (by decide) rfl
set_option maxRecDepth 20000 in
theorem i116_1_3 : ex_ X d 116 1 [v0, v1] [.int 3] h Q = ex_ X d 116 43 [v0, v1] [] h Q := R_tsw (off := 42) (show mx_at 116 1 = some (.tableswitch 59 0 4 #[35, 42, 42, 42, 50], 35) by decide +kernel) (by decide) rfl
set_option maxRecDepth 20000 in
theorem i116_1_4 : ex_ X d 116 1 [v0, v1] [.int 4] h Q = ex_ X d 116 51 [v0, v1] [] h Q := R_tsw (off := 50) (show mx_at 116 1 = some (.tableswitch 59 0 4 #[35, 42, 42, 42, 50], 35) by decide +kernel) (by decide) rfl
set_option maxRecDepth 20000 in
theorem i116_1_d (hx : x.toInt < 0 ∨ 4 < x.toInt) : ex_ X d 116 1 [v0, v1] [.int x] h Q = ex_ X d 116 60 [v0, v1] [] h Q := R_tsw (off := 59) (show mx_at 116 1 = some (.tableswitch 59 0 4 #[35, 42, 42, 42, 50], 35) by decide +kernel) (if_pos hx) rfl
set_option maxRecDepth 20000 in
theorem i116_36 : ex_ X d 116 36 [v0, .int x] [] h Q = ex_ X d 116 37 [v0, .int x] [.int x] h Q := ex_nx (show mx_at 116 36 = some (.iload_n 1, 1) by decide +kernel) rfl
set_option maxRecDepth 20000 in
theorem i116_37 : ex_ X d 116 37 [v0, v1] [w0] h Q = ex_ X d 116 38 [v0, v1] [.int 0, w0] h Q := R_iconst (show mx_at 116 37 = some (.iconst 0, 1) by decide +kernel) (by decide)
set_option maxRecDepth 20000 in
theorem i116_38 : ex_ X d 116 38 [v0, v1] [w0, w1] h Q = ex_ X d 116 39 [v0, v1] [.int 2, w0, w1] h Q := R_iconst (show mx_at 116 38 = some (.iconst 2, 1) by decide +kernel) (by decide)
set_option maxRecDepth 20000 in
theorem i116_39 : ex_ X (d + 1) 116 39 [v0, v1] [.int x2, .int x1, .int x0] h Q = ev_ X d 107 [.int x0, .int x1, .int x2] h (fun r h' => ex_ X (d + 1) 116 42 [v0, v1] (r.toList ++ []) h' Q) := R_stat (show mx_at 116 39 = some (.invokestatic 68, 3) by decide +kernel) (mx_clk ow116 cc11_68) (Nat.le_of_ble_eq_true rfl) rfl rfl (Nat.le_of_ble_eq_true rfl) ml107 (Nat.le_of_ble_eq_true rfl)
set_option maxRecDepth 20000 in
theorem i116_42 (hx : x = 0 ∨ x = 1) : ex_ X d 116 42 [v0, v1] [.int x] h Q = Q (some (.int x)) h := ex_ret (show mx_at 116 42 = some (.ireturn, 1) by decide +kernel) (mx_retZ hx rt116)
set_option maxRecDepth 20000 in
theorem i116_43 : ex_ X d 116 43 [v0, .int x] [] h Q = ex_ X d 116 44 [v0, .int x] [.int x] h Q := ex_nx (show mx_at 116 43 = some (.iload_n 1, 1) by decide +kernel) rfl
set_option maxRecDepth 20000 in
theorem i116_44 : ex_ X d 116 44 [v0, v1] [w0] h Q = ex_ X d 116 45 [v0, v1] [.int 0, w0] h Q := R_iconst (show mx_at 116 44 = some (.iconst 0, 1) by decide +kernel) (by decide)
set_option maxRecDepth 20000 in
theorem i116_45 : ex_ X d 116 45 [v0, v1] [w0, w1] h Q = ex_ X d 116 47 [v0, v1] [.int 40, w0, w1] h Q := R_bipush (show mx_at 116 45 = some (.bipush 40, 2) by decide +kernel) (by decide)
set_option maxRecDepth 20000 in
theorem i116_47 : ex_ X (d + 1) 116 47 [v0, v1] [.int x2, .int x1, .int x0] h Q = ev_ X d 107 [.int x0, .int x1, .int x2] h (fun r h' => ex_ X (d + 1) 116 50 [v0, v1] (r.toList ++ []) h' Q) := R_stat (show mx_at 116 47 = some (.invokestatic 68, 3) by decide +kernel) (mx_clk ow116 cc11_68) (Nat.le_of_ble_eq_true rfl) rfl rfl (Nat.le_of_ble_eq_true rfl) ml107 (Nat.le_of_ble_eq_true rfl)
set_option maxRecDepth 20000 in
theorem i116_50 (hx : x = 0 ∨ x = 1) : ex_ X d 116 50 [v0, v1] [.int x] h Q = Q (some (.int x)) h := ex_ret (show mx_at 116 50 = some (.ireturn, 1) by decide +kernel) (mx_retZ hx rt116)
set_option maxRecDepth 20000 in
theorem i116_51 : ex_ X d 116 51 [v0, .int x] [] h Q = ex_ X d 116 52 [v0, .int x] [.int x] h Q := ex_nx (show mx_at 116 51 = some (.iload_n 1, 1) by decide +kernel) rfl
set_option maxRecDepth 20000 in
theorem i116_52 : ex_ X d 116 52 [v0, v1] [w0] h Q = ex_ X d 116 53 [v0, v1] [.int 0, w0] h Q := R_iconst (show mx_at 116 52 = some (.iconst 0, 1) by decide +kernel) (by decide)
set_option maxRecDepth 20000 in
theorem i116_53 : ex_ X d 116 53 [v0, v1] [w0, w1] h Q = ex_ X d 116 56 [v0, v1] [.int 999, w0, w1] h Q := R_sipush (show mx_at 116 53 = some (.sipush 999, 3) by decide +kernel) (by decide)
set_option maxRecDepth 20000 in
theorem i116_56 : ex_ X (d + 1) 116 56 [v0, v1] [.int x2, .int x1, .int x0] h Q = ev_ X d 107 [.int x0, .int x1, .int x2] h (fun r h' => ex_ X (d + 1) 116 59 [v0, v1] (r.toList ++ []) h' Q) := R_stat (show mx_at 116 56 = some (.invokestatic 68, 3) by decide +kernel) (mx_clk ow116 cc11_68) (Nat.le_of_ble_eq_true rfl) rfl rfl (Nat.le_of_ble_eq_true rfl) ml107 (Nat.le_of_ble_eq_true rfl)
set_option maxRecDepth 20000 in
theorem i116_59 (hx : x = 0 ∨ x = 1) : ex_ X d 116 59 [v0, v1] [.int x] h Q = Q (some (.int x)) h := ex_ret (show mx_at 116 59 = some (.ireturn, 1) by decide +kernel) (mx_retZ hx rt116)
set_option maxRecDepth 20000 in
theorem i116_60 : ex_ X d 116 60 [v0, v1] [] h Q = ex_ X d 116 61 [v0, v1] [.int 0] h Q := R_iconst (show mx_at 116 60 = some (.iconst 0, 1) by decide +kernel) (by decide)
set_option maxRecDepth 20000 in
theorem i116_61 (hx : x = 0 ∨ x = 1) : ex_ X d 116 61 [v0, v1] [.int x] h Q = Q (some (.int x)) h := ex_ret (show mx_at 116 61 = some (.ireturn, 1) by decide +kernel) (mx_retZ hx rt116)
theorem i116_e : ev_ X d 116 [.int x0, .int x1] h Q = ex_ X d 116 0 [.int x0, .int x1] [] h Q := by rw [ev_, ml116]; rfl
-- 117 X11_newSeller
set_option maxRecDepth 20000 in
theorem i117_0 : ex_ X d 117 0 [v0, .int x, v2, v3, v4] [] h Q = ex_ X d 117 1 [v0, .int x, v2, v3, v4] [.int x] h Q := ex_nx (show mx_at 117 0 = some (.iload_n 1, 1) by decide +kernel) rfl
set_option maxRecDepth 20000 in
theorem i117_1_1 : ex_ X d 117 1 [v0, v1, v2, v3, v4] [.int 1] h Q = ex_ X d 117 40 [v0, v1, v2, v3, v4] [] h Q := R_tsw (off := 39) (show mx_at 117 1 = some (.tableswitch 123 1 6 #[39, 53, 67, 81, 95, 109], 39) by decide +kernel) (by decide) rfl
set_option maxRecDepth 20000 in
theorem i117_1_2 : ex_ X d 117 1 [v0, v1, v2, v3, v4] [.int 2] h Q = ex_ X d 117 54 [v0, v1, v2, v3, v4] [] h Q := R_tsw (off := 53) (show mx_at 117 1 = some (.tableswitch 123 1 6 #[39, 53, 67, 81, 95, 109], 39) by decide +kernel) (by decide) rfl
set_option maxRecDepth 20000 in
theorem i117_1_3 : ex_ X d 117 1 [v0, v1, v2, v3, v4] [.int 3] h Q = ex_ X d 117 68 [v0, v1, v2, v3, v4] [] h Q := R_tsw (off := 67) (show mx_at 117 1 = some (.tableswitch 123 1 6 #[39, 53, 67, 81, 95, 109], 39) by decide +kernel) (by decide) rfl
set_option maxRecDepth 20000 in
theorem i117_1_4 : ex_ X d 117 1 [v0, v1, v2, v3, v4] [.int 4] h Q = ex_ X d 117 82 [v0, v1, v2, v3, v4] [] h Q := R_tsw (off := 81) (show mx_at 117 1 = some (.tableswitch 123 1 6 #[39, 53, 67, 81, 95, 109], 39) by decide +kernel) (by decide) rfl
set_option maxRecDepth 20000 in
theorem i117_1_5 : ex_ X d 117 1 [v0, v1, v2, v3, v4] [.int 5] h Q = ex_ X d 117 96 [v0, v1, v2, v3, v4] [] h Q := R_tsw (off := 95) (show mx_at 117 1 = some (.tableswitch 123 1 6 #[39, 53, 67, 81, 95, 109], 39) by decide +kernel) (by decide) rfl
set_option maxRecDepth 20000 in
theorem i117_1_6 : ex_ X d 117 1 [v0, v1, v2, v3, v4] [.int 6] h Q = ex_ X d 117 110 [v0, v1, v2, v3, v4] [] h Q := R_tsw (off := 109) (show mx_at 117 1 = some (.tableswitch 123 1 6 #[39, 53, 67, 81, 95, 109], 39) by decide +kernel) (by decide) rfl
set_option maxRecDepth 20000 in
theorem i117_1_d (hx : x.toInt < 1 ∨ 6 < x.toInt) : ex_ X d 117 1 [v0, v1, v2, v3, v4] [.int x] h Q = ex_ X d 117 124 [v0, v1, v2, v3, v4] [] h Q := R_tsw (off := 123) (show mx_at 117 1 = some (.tableswitch 123 1 6 #[39, 53, 67, 81, 95, 109], 39) by decide +kernel) (if_pos hx) rfl
set_option maxRecDepth 20000 in
theorem i117_40 : ex_ X d 117 40 [v0, v1, v2, v3, v4] [] h Q = ex_ X d 117 43 [v0, v1, v2, v3, v4] [.ref h.length] (h ++ [.inr (0, [.int 0, .int 0, .int 0, .int 0, .int 0])]) Q := R_new (show mx_at 117 40 = some (.new 302, 3) by decide +kernel) (mx_lko ow117 cl110302) rfl
set_option maxRecDepth 20000 in
theorem i117_43 : ex_ X d 117 43 [v0, v1, v2, v3, v4] [.ref a] h Q = ex_ X d 117 44 [v0, v1, v2, v3, v4] [.ref a, .ref a] h Q := ex_nx (show mx_at 117 43 = some (.dup, 1) by decide +kernel) rfl
set_option maxRecDepth 20000 in
theorem i117_44 : ex_ X d 117 44 [.int x, v1, v2, v3, v4] [w0, w1] h Q = ex_ X d 117 45 [.int x, v1, v2, v3, v4] [.int x, w0, w1] h Q := ex_nx (show mx_at 117 44 = some (.iload_n 0, 1) by decide +kernel) rfl
set_option maxRecDepth 20000 in
theorem i117_45 : ex_ X d 117 45 [v0, .int x, v2, v3, v4] [w0, w1, w2] h Q = ex_ X d 117 46 [v0, .int x, v2, v3, v4] [.int x, w0, w1, w2] h Q := ex_nx (show mx_at 117 45 = some (.iload_n 1, 1) by decide +kernel) rfl
set_option maxRecDepth 20000 in
theorem i117_46 : ex_ X d 117 46 [v0, v1, .int x, v3, v4] [w0, w1, w2, w3] h Q = ex_ X d 117 47 [v0, v1, .int x, v3, v4] [.int x, w0, w1, w2, w3] h Q := ex_nx (show mx_at 117 46 = some (.iload_n 2, 1) by decide +kernel) rfl
set_option maxRecDepth 20000 in
theorem i117_47 : ex_ X d 117 47 [v0, v1, v2, .int x, v4] [w0, w1, w2, w3, w4] h Q = ex_ X d 117 48 [v0, v1, v2, .int x, v4] [.int x, w0, w1, w2, w3, w4] h Q := ex_nx (show mx_at 117 47 = some (.iload_n 3, 1) by decide +kernel) rfl
set_option maxRecDepth 20000 in
theorem i117_48 : ex_ X d 117 48 [v0, v1, v2, v3, .int x] [w0, w1, w2, w3, w4, w5] h Q = ex_ X d 117 50 [v0, v1, v2, v3, .int x] [.int x, w0, w1, w2, w3, w4, w5] h Q := ex_nx (show mx_at 117 48 = some (.iload 4, 2) by decide +kernel) rfl
set_option maxRecDepth 20000 in
theorem i117_50 : ex_ X (d + 1) 117 50 [v0, v1, v2, v3, v4] [.int x4, .int x3, .int x2, .int x1, .int x0, .ref a, w0] h Q = ev_ X d 0 [.ref a, .int x0, .int x1, .int x2, .int x3, .int x4] h (fun r h' => ex_ X (d + 1) 117 53 [v0, v1, v2, v3, v4] (r.toList ++ [w0]) h' Q) := R_ctor (show mx_at 117 50 = some (.invokespecial 304, 3) by decide +kernel) (mx_clk ow117 cc11_304) (by decide) (Nat.le_of_ble_eq_true rfl) rfl rfl (Nat.le_of_ble_eq_true rfl) ml0 (Nat.le_of_ble_eq_true rfl)
set_option maxRecDepth 20000 in
theorem i117_53 : ex_ X d 117 53 [v0, v1, v2, v3, v4] [.ref a] h Q = Q (some (.ref a)) h := ex_ret (show mx_at 117 53 = some (.areturn, 1) by decide +kernel) (mx_retA rt117)
set_option maxRecDepth 20000 in
theorem i117_54 : ex_ X d 117 54 [v0, v1, v2, v3, v4] [] h Q = ex_ X d 117 57 [v0, v1, v2, v3, v4] [.ref h.length] (h ++ [.inr (8, [.int 0, .int 0, .int 0, .int 0, .int 0])]) Q := R_new (show mx_at 117 54 = some (.new 307, 3) by decide +kernel) (mx_lko ow117 cl110307) rfl
set_option maxRecDepth 20000 in
theorem i117_57 : ex_ X d 117 57 [v0, v1, v2, v3, v4] [.ref a] h Q = ex_ X d 117 58 [v0, v1, v2, v3, v4] [.ref a, .ref a] h Q := ex_nx (show mx_at 117 57 = some (.dup, 1) by decide +kernel) rfl
set_option maxRecDepth 20000 in
theorem i117_58 : ex_ X d 117 58 [.int x, v1, v2, v3, v4] [w0, w1] h Q = ex_ X d 117 59 [.int x, v1, v2, v3, v4] [.int x, w0, w1] h Q := ex_nx (show mx_at 117 58 = some (.iload_n 0, 1) by decide +kernel) rfl
set_option maxRecDepth 20000 in
theorem i117_59 : ex_ X d 117 59 [v0, .int x, v2, v3, v4] [w0, w1, w2] h Q = ex_ X d 117 60 [v0, .int x, v2, v3, v4] [.int x, w0, w1, w2] h Q := ex_nx (show mx_at 117 59 = some (.iload_n 1, 1) by decide +kernel) rfl
set_option maxRecDepth 20000 in
theorem i117_60 : ex_ X d 117 60 [v0, v1, .int x, v3, v4] [w0, w1, w2, w3] h Q = ex_ X d 117 61 [v0, v1, .int x, v3, v4] [.int x, w0, w1, w2, w3] h Q := ex_nx (show mx_at 117 60 = some (.iload_n 2, 1) by decide +kernel) rfl
set_option maxRecDepth 20000 in
theorem i117_61 : ex_ X d 117 61 [v0, v1, v2, .int x, v4] [w0, w1, w2, w3, w4] h Q = ex_ X d 117 62 [v0, v1, v2, .int x, v4] [.int x, w0, w1, w2, w3, w4] h Q := ex_nx (show mx_at 117 61 = some (.iload_n 3, 1) by decide +kernel) rfl
set_option maxRecDepth 20000 in
theorem i117_62 : ex_ X d 117 62 [v0, v1, v2, v3, .int x] [w0, w1, w2, w3, w4, w5] h Q = ex_ X d 117 64 [v0, v1, v2, v3, .int x] [.int x, w0, w1, w2, w3, w4, w5] h Q := ex_nx (show mx_at 117 62 = some (.iload 4, 2) by decide +kernel) rfl
set_option maxRecDepth 20000 in
theorem i117_64 : ex_ X (d + 1) 117 64 [v0, v1, v2, v3, v4] [.int x4, .int x3, .int x2, .int x1, .int x0, .ref a, w0] h Q = ev_ X d 52 [.ref a, .int x0, .int x1, .int x2, .int x3, .int x4] h (fun r h' => ex_ X (d + 1) 117 67 [v0, v1, v2, v3, v4] (r.toList ++ [w0]) h' Q) := R_ctor (show mx_at 117 64 = some (.invokespecial 309, 3) by decide +kernel) (mx_clk ow117 cc11_309) (by decide) (Nat.le_of_ble_eq_true rfl) rfl rfl (Nat.le_of_ble_eq_true rfl) ml52 (Nat.le_of_ble_eq_true rfl)
set_option maxRecDepth 20000 in
theorem i117_67 : ex_ X d 117 67 [v0, v1, v2, v3, v4] [.ref a] h Q = Q (some (.ref a)) h := ex_ret (show mx_at 117 67 = some (.areturn, 1) by decide +kernel) (mx_retA rt117)
set_option maxRecDepth 20000 in
theorem i117_68 : ex_ X d 117 68 [v0, v1, v2, v3, v4] [] h Q = ex_ X d 117 71 [v0, v1, v2, v3, v4] [.ref h.length] (h ++ [.inr (2, [.int 0, .int 0, .int 0, .int 0, .int 0])]) Q := R_new (show mx_at 117 68 = some (.new 310, 3) by decide +kernel) (mx_lko ow117 cl110310) rfl
set_option maxRecDepth 20000 in
theorem i117_71 : ex_ X d 117 71 [v0, v1, v2, v3, v4] [.ref a] h Q = ex_ X d 117 72 [v0, v1, v2, v3, v4] [.ref a, .ref a] h Q := ex_nx (show mx_at 117 71 = some (.dup, 1) by decide +kernel) rfl
set_option maxRecDepth 20000 in
theorem i117_72 : ex_ X d 117 72 [.int x, v1, v2, v3, v4] [w0, w1] h Q = ex_ X d 117 73 [.int x, v1, v2, v3, v4] [.int x, w0, w1] h Q := ex_nx (show mx_at 117 72 = some (.iload_n 0, 1) by decide +kernel) rfl
set_option maxRecDepth 20000 in
theorem i117_73 : ex_ X d 117 73 [v0, .int x, v2, v3, v4] [w0, w1, w2] h Q = ex_ X d 117 74 [v0, .int x, v2, v3, v4] [.int x, w0, w1, w2] h Q := ex_nx (show mx_at 117 73 = some (.iload_n 1, 1) by decide +kernel) rfl
set_option maxRecDepth 20000 in
theorem i117_74 : ex_ X d 117 74 [v0, v1, .int x, v3, v4] [w0, w1, w2, w3] h Q = ex_ X d 117 75 [v0, v1, .int x, v3, v4] [.int x, w0, w1, w2, w3] h Q := ex_nx (show mx_at 117 74 = some (.iload_n 2, 1) by decide +kernel) rfl
set_option maxRecDepth 20000 in
theorem i117_75 : ex_ X d 117 75 [v0, v1, v2, .int x, v4] [w0, w1, w2, w3, w4] h Q = ex_ X d 117 76 [v0, v1, v2, .int x, v4] [.int x, w0, w1, w2, w3, w4] h Q := ex_nx (show mx_at 117 75 = some (.iload_n 3, 1) by decide +kernel) rfl
set_option maxRecDepth 20000 in
theorem i117_76 : ex_ X d 117 76 [v0, v1, v2, v3, .int x] [w0, w1, w2, w3, w4, w5] h Q = ex_ X d 117 78 [v0, v1, v2, v3, .int x] [.int x, w0, w1, w2, w3, w4, w5] h Q := ex_nx (show mx_at 117 76 = some (.iload 4, 2) by decide +kernel) rfl
set_option maxRecDepth 20000 in
theorem i117_78 : ex_ X (d + 1) 117 78 [v0, v1, v2, v3, v4] [.int x4, .int x3, .int x2, .int x1, .int x0, .ref a, w0] h Q = ev_ X d 6 [.ref a, .int x0, .int x1, .int x2, .int x3, .int x4] h (fun r h' => ex_ X (d + 1) 117 81 [v0, v1, v2, v3, v4] (r.toList ++ [w0]) h' Q) := R_ctor (show mx_at 117 78 = some (.invokespecial 312, 3) by decide +kernel) (mx_clk ow117 cc11_312) (by decide) (Nat.le_of_ble_eq_true rfl) rfl rfl (Nat.le_of_ble_eq_true rfl) ml6 (Nat.le_of_ble_eq_true rfl)
set_option maxRecDepth 20000 in
theorem i117_81 : ex_ X d 117 81 [v0, v1, v2, v3, v4] [.ref a] h Q = Q (some (.ref a)) h := ex_ret (show mx_at 117 81 = some (.areturn, 1) by decide +kernel) (mx_retA rt117)
set_option maxRecDepth 20000 in
theorem i117_82 : ex_ X d 117 82 [v0, v1, v2, v3, v4] [] h Q = ex_ X d 117 85 [v0, v1, v2, v3, v4] [.ref h.length] (h ++ [.inr (1, [.int 0, .int 0, .int 0, .int 0, .int 0])]) Q := R_new (show mx_at 117 82 = some (.new 313, 3) by decide +kernel) (mx_lko ow117 cl110313) rfl
set_option maxRecDepth 20000 in
theorem i117_85 : ex_ X d 117 85 [v0, v1, v2, v3, v4] [.ref a] h Q = ex_ X d 117 86 [v0, v1, v2, v3, v4] [.ref a, .ref a] h Q := ex_nx (show mx_at 117 85 = some (.dup, 1) by decide +kernel) rfl
set_option maxRecDepth 20000 in
theorem i117_86 : ex_ X d 117 86 [.int x, v1, v2, v3, v4] [w0, w1] h Q = ex_ X d 117 87 [.int x, v1, v2, v3, v4] [.int x, w0, w1] h Q := ex_nx (show mx_at 117 86 = some (.iload_n 0, 1) by decide +kernel) rfl
set_option maxRecDepth 20000 in
theorem i117_87 : ex_ X d 117 87 [v0, .int x, v2, v3, v4] [w0, w1, w2] h Q = ex_ X d 117 88 [v0, .int x, v2, v3, v4] [.int x, w0, w1, w2] h Q := ex_nx (show mx_at 117 87 = some (.iload_n 1, 1) by decide +kernel) rfl
set_option maxRecDepth 20000 in
theorem i117_88 : ex_ X d 117 88 [v0, v1, .int x, v3, v4] [w0, w1, w2, w3] h Q = ex_ X d 117 89 [v0, v1, .int x, v3, v4] [.int x, w0, w1, w2, w3] h Q := ex_nx (show mx_at 117 88 = some (.iload_n 2, 1) by decide +kernel) rfl
set_option maxRecDepth 20000 in
theorem i117_89 : ex_ X d 117 89 [v0, v1, v2, .int x, v4] [w0, w1, w2, w3, w4] h Q = ex_ X d 117 90 [v0, v1, v2, .int x, v4] [.int x, w0, w1, w2, w3, w4] h Q := ex_nx (show mx_at 117 89 = some (.iload_n 3, 1) by decide +kernel) rfl
set_option maxRecDepth 20000 in
theorem i117_90 : ex_ X d 117 90 [v0, v1, v2, v3, .int x] [w0, w1, w2, w3, w4, w5] h Q = ex_ X d 117 92 [v0, v1, v2, v3, .int x] [.int x, w0, w1, w2, w3, w4, w5] h Q := ex_nx (show mx_at 117 90 = some (.iload 4, 2) by decide +kernel) rfl
set_option maxRecDepth 20000 in
theorem i117_92 : ex_ X (d + 1) 117 92 [v0, v1, v2, v3, v4] [.int x4, .int x3, .int x2, .int x1, .int x0, .ref a, w0] h Q = ev_ X d 3 [.ref a, .int x0, .int x1, .int x2, .int x3, .int x4] h (fun r h' => ex_ X (d + 1) 117 95 [v0, v1, v2, v3, v4] (r.toList ++ [w0]) h' Q) := R_ctor (show mx_at 117 92 = some (.invokespecial 315, 3) by decide +kernel) (mx_clk ow117 cc11_315) (by decide) (Nat.le_of_ble_eq_true rfl) rfl rfl (Nat.le_of_ble_eq_true rfl) ml3 (Nat.le_of_ble_eq_true rfl)
set_option maxRecDepth 20000 in
theorem i117_95 : ex_ X d 117 95 [v0, v1, v2, v3, v4] [.ref a] h Q = Q (some (.ref a)) h := ex_ret (show mx_at 117 95 = some (.areturn, 1) by decide +kernel) (mx_retA rt117)
set_option maxRecDepth 20000 in
theorem i117_96 : ex_ X d 117 96 [v0, v1, v2, v3, v4] [] h Q = ex_ X d 117 99 [v0, v1, v2, v3, v4] [.ref h.length] (h ++ [.inr (9, [.int 0, .int 0, .int 0, .int 0, .int 0])]) Q := R_new (show mx_at 117 96 = some (.new 316, 3) by decide +kernel) (mx_lko ow117 cl110316) rfl
set_option maxRecDepth 20000 in
theorem i117_99 : ex_ X d 117 99 [v0, v1, v2, v3, v4] [.ref a] h Q = ex_ X d 117 100 [v0, v1, v2, v3, v4] [.ref a, .ref a] h Q := ex_nx (show mx_at 117 99 = some (.dup, 1) by decide +kernel) rfl
set_option maxRecDepth 20000 in
theorem i117_100 : ex_ X d 117 100 [.int x, v1, v2, v3, v4] [w0, w1] h Q = ex_ X d 117 101 [.int x, v1, v2, v3, v4] [.int x, w0, w1] h Q := ex_nx (show mx_at 117 100 = some (.iload_n 0, 1) by decide +kernel) rfl
set_option maxRecDepth 20000 in
theorem i117_101 : ex_ X d 117 101 [v0, .int x, v2, v3, v4] [w0, w1, w2] h Q = ex_ X d 117 102 [v0, .int x, v2, v3, v4] [.int x, w0, w1, w2] h Q := ex_nx (show mx_at 117 101 = some (.iload_n 1, 1) by decide +kernel) rfl
set_option maxRecDepth 20000 in
theorem i117_102 : ex_ X d 117 102 [v0, v1, .int x, v3, v4] [w0, w1, w2, w3] h Q = ex_ X d 117 103 [v0, v1, .int x, v3, v4] [.int x, w0, w1, w2, w3] h Q := ex_nx (show mx_at 117 102 = some (.iload_n 2, 1) by decide +kernel) rfl
set_option maxRecDepth 20000 in
theorem i117_103 : ex_ X d 117 103 [v0, v1, v2, .int x, v4] [w0, w1, w2, w3, w4] h Q = ex_ X d 117 104 [v0, v1, v2, .int x, v4] [.int x, w0, w1, w2, w3, w4] h Q := ex_nx (show mx_at 117 103 = some (.iload_n 3, 1) by decide +kernel) rfl
set_option maxRecDepth 20000 in
theorem i117_104 : ex_ X d 117 104 [v0, v1, v2, v3, .int x] [w0, w1, w2, w3, w4, w5] h Q = ex_ X d 117 106 [v0, v1, v2, v3, .int x] [.int x, w0, w1, w2, w3, w4, w5] h Q := ex_nx (show mx_at 117 104 = some (.iload 4, 2) by decide +kernel) rfl
set_option maxRecDepth 20000 in
theorem i117_106 : ex_ X (d + 1) 117 106 [v0, v1, v2, v3, v4] [.int x4, .int x3, .int x2, .int x1, .int x0, .ref a, w0] h Q = ev_ X d 55 [.ref a, .int x0, .int x1, .int x2, .int x3, .int x4] h (fun r h' => ex_ X (d + 1) 117 109 [v0, v1, v2, v3, v4] (r.toList ++ [w0]) h' Q) := R_ctor (show mx_at 117 106 = some (.invokespecial 318, 3) by decide +kernel) (mx_clk ow117 cc11_318) (by decide) (Nat.le_of_ble_eq_true rfl) rfl rfl (Nat.le_of_ble_eq_true rfl) ml55 (Nat.le_of_ble_eq_true rfl)
set_option maxRecDepth 20000 in
theorem i117_109 : ex_ X d 117 109 [v0, v1, v2, v3, v4] [.ref a] h Q = Q (some (.ref a)) h := ex_ret (show mx_at 117 109 = some (.areturn, 1) by decide +kernel) (mx_retA rt117)
set_option maxRecDepth 20000 in
theorem i117_110 : ex_ X d 117 110 [v0, v1, v2, v3, v4] [] h Q = ex_ X d 117 113 [v0, v1, v2, v3, v4] [.ref h.length] (h ++ [.inr (4, [.int 0, .int 0, .int 0, .int 0, .int 0])]) Q := R_new (show mx_at 117 110 = some (.new 319, 3) by decide +kernel) (mx_lko ow117 cl110319) rfl
set_option maxRecDepth 20000 in
theorem i117_113 : ex_ X d 117 113 [v0, v1, v2, v3, v4] [.ref a] h Q = ex_ X d 117 114 [v0, v1, v2, v3, v4] [.ref a, .ref a] h Q := ex_nx (show mx_at 117 113 = some (.dup, 1) by decide +kernel) rfl
set_option maxRecDepth 20000 in
theorem i117_114 : ex_ X d 117 114 [.int x, v1, v2, v3, v4] [w0, w1] h Q = ex_ X d 117 115 [.int x, v1, v2, v3, v4] [.int x, w0, w1] h Q := ex_nx (show mx_at 117 114 = some (.iload_n 0, 1) by decide +kernel) rfl
set_option maxRecDepth 20000 in
theorem i117_115 : ex_ X d 117 115 [v0, .int x, v2, v3, v4] [w0, w1, w2] h Q = ex_ X d 117 116 [v0, .int x, v2, v3, v4] [.int x, w0, w1, w2] h Q := ex_nx (show mx_at 117 115 = some (.iload_n 1, 1) by decide +kernel) rfl
set_option maxRecDepth 20000 in
theorem i117_116 : ex_ X d 117 116 [v0, v1, .int x, v3, v4] [w0, w1, w2, w3] h Q = ex_ X d 117 117 [v0, v1, .int x, v3, v4] [.int x, w0, w1, w2, w3] h Q := ex_nx (show mx_at 117 116 = some (.iload_n 2, 1) by decide +kernel) rfl
set_option maxRecDepth 20000 in
theorem i117_117 : ex_ X d 117 117 [v0, v1, v2, .int x, v4] [w0, w1, w2, w3, w4] h Q = ex_ X d 117 118 [v0, v1, v2, .int x, v4] [.int x, w0, w1, w2, w3, w4] h Q := ex_nx (show mx_at 117 117 = some (.iload_n 3, 1) by decide +kernel) rfl
set_option maxRecDepth 20000 in
theorem i117_118 : ex_ X d 117 118 [v0, v1, v2, v3, .int x] [w0, w1, w2, w3, w4, w5] h Q = ex_ X d 117 120 [v0, v1, v2, v3, .int x] [.int x, w0, w1, w2, w3, w4, w5] h Q := ex_nx (show mx_at 117 118 = some (.iload 4, 2) by decide +kernel) rfl
set_option maxRecDepth 20000 in
theorem i117_120 : ex_ X (d + 1) 117 120 [v0, v1, v2, v3, v4] [.int x4, .int x3, .int x2, .int x1, .int x0, .ref a, w0] h Q = ev_ X d 30 [.ref a, .int x0, .int x1, .int x2, .int x3, .int x4] h (fun r h' => ex_ X (d + 1) 117 123 [v0, v1, v2, v3, v4] (r.toList ++ [w0]) h' Q) := R_ctor (show mx_at 117 120 = some (.invokespecial 321, 3) by decide +kernel) (mx_clk ow117 cc11_321) (by decide) (Nat.le_of_ble_eq_true rfl) rfl rfl (Nat.le_of_ble_eq_true rfl) ml30 (Nat.le_of_ble_eq_true rfl)
set_option maxRecDepth 20000 in
theorem i117_123 : ex_ X d 117 123 [v0, v1, v2, v3, v4] [.ref a] h Q = Q (some (.ref a)) h := ex_ret (show mx_at 117 123 = some (.areturn, 1) by decide +kernel) (mx_retA rt117)
set_option maxRecDepth 20000 in
theorem i117_124 : ex_ X d 117 124 [v0, v1, v2, v3, v4] [] h Q = ex_ X d 117 127 [v0, v1, v2, v3, v4] [.ref h.length] (h ++ [.inr (6, [.int 0, .int 0, .int 0, .int 0, .int 0])]) Q := R_new (show mx_at 117 124 = some (.new 117, 3) by decide +kernel) (mx_lko ow117 cl110117) rfl
set_option maxRecDepth 20000 in
theorem i117_127 : ex_ X d 117 127 [v0, v1, v2, v3, v4] [.ref a] h Q = ex_ X d 117 128 [v0, v1, v2, v3, v4] [.ref a, .ref a] h Q := ex_nx (show mx_at 117 127 = some (.dup, 1) by decide +kernel) rfl
set_option maxRecDepth 20000 in
theorem i117_128 : ex_ X d 117 128 [.int x, v1, v2, v3, v4] [w0, w1] h Q = ex_ X d 117 129 [.int x, v1, v2, v3, v4] [.int x, w0, w1] h Q := ex_nx (show mx_at 117 128 = some (.iload_n 0, 1) by decide +kernel) rfl
set_option maxRecDepth 20000 in
theorem i117_129 : ex_ X d 117 129 [v0, .int x, v2, v3, v4] [w0, w1, w2] h Q = ex_ X d 117 130 [v0, .int x, v2, v3, v4] [.int x, w0, w1, w2] h Q := ex_nx (show mx_at 117 129 = some (.iload_n 1, 1) by decide +kernel) rfl
set_option maxRecDepth 20000 in
theorem i117_130 : ex_ X d 117 130 [v0, v1, .int x, v3, v4] [w0, w1, w2, w3] h Q = ex_ X d 117 131 [v0, v1, .int x, v3, v4] [.int x, w0, w1, w2, w3] h Q := ex_nx (show mx_at 117 130 = some (.iload_n 2, 1) by decide +kernel) rfl
set_option maxRecDepth 20000 in
theorem i117_131 : ex_ X d 117 131 [v0, v1, v2, .int x, v4] [w0, w1, w2, w3, w4] h Q = ex_ X d 117 132 [v0, v1, v2, .int x, v4] [.int x, w0, w1, w2, w3, w4] h Q := ex_nx (show mx_at 117 131 = some (.iload_n 3, 1) by decide +kernel) rfl
set_option maxRecDepth 20000 in
theorem i117_132 : ex_ X d 117 132 [v0, v1, v2, v3, .int x] [w0, w1, w2, w3, w4, w5] h Q = ex_ X d 117 134 [v0, v1, v2, v3, .int x] [.int x, w0, w1, w2, w3, w4, w5] h Q := ex_nx (show mx_at 117 132 = some (.iload 4, 2) by decide +kernel) rfl
set_option maxRecDepth 20000 in
theorem i117_134 : ex_ X (d + 1) 117 134 [v0, v1, v2, v3, v4] [.int x4, .int x3, .int x2, .int x1, .int x0, .ref a, w0] h Q = ev_ X d 40 [.ref a, .int x0, .int x1, .int x2, .int x3, .int x4] h (fun r h' => ex_ X (d + 1) 117 137 [v0, v1, v2, v3, v4] (r.toList ++ [w0]) h' Q) := R_ctor (show mx_at 117 134 = some (.invokespecial 322, 3) by decide +kernel) (mx_clk ow117 cc11_322) (by decide) (Nat.le_of_ble_eq_true rfl) rfl rfl (Nat.le_of_ble_eq_true rfl) ml40 (Nat.le_of_ble_eq_true rfl)
set_option maxRecDepth 20000 in
theorem i117_137 : ex_ X d 117 137 [v0, v1, v2, v3, v4] [.ref a] h Q = Q (some (.ref a)) h := ex_ret (show mx_at 117 137 = some (.areturn, 1) by decide +kernel) (mx_retA rt117)
theorem i117_e : ev_ X d 117 [.int x0, .int x1, .int x2, .int x3, .int x4] h Q = ex_ X d 117 0 [.int x0, .int x1, .int x2, .int x3, .int x4] [] h Q := by rw [ev_, ml117]; rfl
-- 118 X11_isOfKind
set_option maxRecDepth 20000 in
theorem i118_0 : ex_ X d 118 0 [v0, .int x] [] h Q = ex_ X d 118 1 [v0, .int x] [.int x] h Q := ex_nx (show mx_at 118 0 = some (.iload_n 1, 1) by decide +kernel) rfl
set_option maxRecDepth 20000 in
theorem i118_1_1 : ex_ X d 118 1 [v0, v1] [.int 1] h Q = ex_ X d 118 40 [v0, v1] [] h Q := R_tsw (off := 39) (show mx_at 118 1 = some (.tableswitch 69 1 6 #[39, 44, 49, 54, 59, 64], 39) by decide +kernel) (by decide) rfl
set_option maxRecDepth 20000 in
theorem i118_1_2 : ex_ X d 118 1 [v0, v1] [.int 2] h Q = ex_ X d 118 45 [v0, v1] [] h Q := R_tsw (off := 44) (show mx_at 118 1 = some (.tableswitch 69 1 6 #[39, 44, 49, 54, 59, 64], 39) by decide +kernel) (by decide) rfl
set_option maxRecDepth 20000 in
theorem i118_1_3 : ex_ X d 118 1 [v0, v1] [.int 3] h Q = ex_ X d 118 50 [v0, v1] [] h Q := R_tsw (off := 49) (show mx_at 118 1 = some (.tableswitch 69 1 6 #[39, 44, 49, 54, 59, 64], 39) by decide +kernel) (by decide) rfl
set_option maxRecDepth 20000 in
theorem i118_1_4 : ex_ X d 118 1 [v0, v1] [.int 4] h Q = ex_ X d 118 55 [v0, v1] [] h Q := R_tsw (off := 54) (show mx_at 118 1 = some (.tableswitch 69 1 6 #[39, 44, 49, 54, 59, 64], 39) by decide +kernel) (by decide) rfl
set_option maxRecDepth 20000 in
theorem i118_1_5 : ex_ X d 118 1 [v0, v1] [.int 5] h Q = ex_ X d 118 60 [v0, v1] [] h Q := R_tsw (off := 59) (show mx_at 118 1 = some (.tableswitch 69 1 6 #[39, 44, 49, 54, 59, 64], 39) by decide +kernel) (by decide) rfl
set_option maxRecDepth 20000 in
theorem i118_1_6 : ex_ X d 118 1 [v0, v1] [.int 6] h Q = ex_ X d 118 65 [v0, v1] [] h Q := R_tsw (off := 64) (show mx_at 118 1 = some (.tableswitch 69 1 6 #[39, 44, 49, 54, 59, 64], 39) by decide +kernel) (by decide) rfl
set_option maxRecDepth 20000 in
theorem i118_1_d (hx : x.toInt < 1 ∨ 6 < x.toInt) : ex_ X d 118 1 [v0, v1] [.int x] h Q = ex_ X d 118 70 [v0, v1] [] h Q := R_tsw (off := 69) (show mx_at 118 1 = some (.tableswitch 69 1 6 #[39, 44, 49, 54, 59, 64], 39) by decide +kernel) (if_pos hx) rfl
set_option maxRecDepth 20000 in
theorem i118_40 : ex_ X d 118 40 [.ref a, v1] [] h Q = ex_ X d 118 41 [.ref a, v1] [.ref a] h Q := ex_nx (show mx_at 118 40 = some (.aload_n 0, 1) by decide +kernel) rfl
set_option maxRecDepth 20000 in
theorem i118_41_c0 (hc : co_ h a = some 0) : ex_ X d 118 41 [v0, v1] [.ref a] h Q = ex_ X d 118 44 [v0, v1] [.int 1] h Q := R_inst (show mx_at 118 41 = some (.instanceof 302, 3) by decide +kernel) (mx_lko ow118 cl110302) hc ⟨rfl, rfl⟩
set_option maxRecDepth 20000 in
theorem i118_41_c1 (hc : co_ h a = some 1) : ex_ X d 118 41 [v0, v1] [.ref a] h Q = ex_ X d 118 44 [v0, v1] [.int 0] h Q := R_inst (show mx_at 118 41 = some (.instanceof 302, 3) by decide +kernel) (mx_lko ow118 cl110302) hc ⟨rfl, rfl⟩
set_option maxRecDepth 20000 in
theorem i118_41_c2 (hc : co_ h a = some 2) : ex_ X d 118 41 [v0, v1] [.ref a] h Q = ex_ X d 118 44 [v0, v1] [.int 0] h Q := R_inst (show mx_at 118 41 = some (.instanceof 302, 3) by decide +kernel) (mx_lko ow118 cl110302) hc ⟨rfl, rfl⟩
set_option maxRecDepth 20000 in
theorem i118_41_c4 (hc : co_ h a = some 4) : ex_ X d 118 41 [v0, v1] [.ref a] h Q = ex_ X d 118 44 [v0, v1] [.int 1] h Q := R_inst (show mx_at 118 41 = some (.instanceof 302, 3) by decide +kernel) (mx_lko ow118 cl110302) hc ⟨rfl, rfl⟩
set_option maxRecDepth 20000 in
theorem i118_41_c6 (hc : co_ h a = some 6) : ex_ X d 118 41 [v0, v1] [.ref a] h Q = ex_ X d 118 44 [v0, v1] [.int 0] h Q := R_inst (show mx_at 118 41 = some (.instanceof 302, 3) by decide +kernel) (mx_lko ow118 cl110302) hc ⟨rfl, rfl⟩
set_option maxRecDepth 20000 in
theorem i118_41_c8 (hc : co_ h a = some 8) : ex_ X d 118 41 [v0, v1] [.ref a] h Q = ex_ X d 118 44 [v0, v1] [.int 0] h Q := R_inst (show mx_at 118 41 = some (.instanceof 302, 3) by decide +kernel) (mx_lko ow118 cl110302) hc ⟨rfl, rfl⟩
set_option maxRecDepth 20000 in
theorem i118_41_c9 (hc : co_ h a = some 9) : ex_ X d 118 41 [v0, v1] [.ref a] h Q = ex_ X d 118 44 [v0, v1] [.int 0] h Q := R_inst (show mx_at 118 41 = some (.instanceof 302, 3) by decide +kernel) (mx_lko ow118 cl110302) hc ⟨rfl, rfl⟩
set_option maxRecDepth 20000 in
theorem i118_44 (hx : x = 0 ∨ x = 1) : ex_ X d 118 44 [v0, v1] [.int x] h Q = Q (some (.int x)) h := ex_ret (show mx_at 118 44 = some (.ireturn, 1) by decide +kernel) (mx_retZ hx rt118)
set_option maxRecDepth 20000 in
theorem i118_45 : ex_ X d 118 45 [.ref a, v1] [] h Q = ex_ X d 118 46 [.ref a, v1] [.ref a] h Q := ex_nx (show mx_at 118 45 = some (.aload_n 0, 1) by decide +kernel) rfl
set_option maxRecDepth 20000 in
theorem i118_46_c0 (hc : co_ h a = some 0) : ex_ X d 118 46 [v0, v1] [.ref a] h Q = ex_ X d 118 49 [v0, v1] [.int 0] h Q := R_inst (show mx_at 118 46 = some (.instanceof 307, 3) by decide +kernel) (mx_lko ow118 cl110307) hc ⟨rfl, rfl⟩
set_option maxRecDepth 20000 in
theorem i118_46_c1 (hc : co_ h a = some 1) : ex_ X d 118 46 [v0, v1] [.ref a] h Q = ex_ X d 118 49 [v0, v1] [.int 0] h Q := R_inst (show mx_at 118 46 = some (.instanceof 307, 3) by decide +kernel) (mx_lko ow118 cl110307) hc ⟨rfl, rfl⟩
set_option maxRecDepth 20000 in
theorem i118_46_c2 (hc : co_ h a = some 2) : ex_ X d 118 46 [v0, v1] [.ref a] h Q = ex_ X d 118 49 [v0, v1] [.int 1] h Q := R_inst (show mx_at 118 46 = some (.instanceof 307, 3) by decide +kernel) (mx_lko ow118 cl110307) hc ⟨rfl, rfl⟩
set_option maxRecDepth 20000 in
theorem i118_46_c4 (hc : co_ h a = some 4) : ex_ X d 118 46 [v0, v1] [.ref a] h Q = ex_ X d 118 49 [v0, v1] [.int 0] h Q := R_inst (show mx_at 118 46 = some (.instanceof 307, 3) by decide +kernel) (mx_lko ow118 cl110307) hc ⟨rfl, rfl⟩
set_option maxRecDepth 20000 in
theorem i118_46_c6 (hc : co_ h a = some 6) : ex_ X d 118 46 [v0, v1] [.ref a] h Q = ex_ X d 118 49 [v0, v1] [.int 0] h Q := R_inst (show mx_at 118 46 = some (.instanceof 307, 3) by decide +kernel) (mx_lko ow118 cl110307) hc ⟨rfl, rfl⟩
set_option maxRecDepth 20000 in
theorem i118_46_c8 (hc : co_ h a = some 8) : ex_ X d 118 46 [v0, v1] [.ref a] h Q = ex_ X d 118 49 [v0, v1] [.int 1] h Q := R_inst (show mx_at 118 46 = some (.instanceof 307, 3) by decide +kernel) (mx_lko ow118 cl110307) hc ⟨rfl, rfl⟩
set_option maxRecDepth 20000 in
theorem i118_46_c9 (hc : co_ h a = some 9) : ex_ X d 118 46 [v0, v1] [.ref a] h Q = ex_ X d 118 49 [v0, v1] [.int 0] h Q := R_inst (show mx_at 118 46 = some (.instanceof 307, 3) by decide +kernel) (mx_lko ow118 cl110307) hc ⟨rfl, rfl⟩
set_option maxRecDepth 20000 in
theorem i118_49 (hx : x = 0 ∨ x = 1) : ex_ X d 118 49 [v0, v1] [.int x] h Q = Q (some (.int x)) h := ex_ret (show mx_at 118 49 = some (.ireturn, 1) by decide +kernel) (mx_retZ hx rt118)
set_option maxRecDepth 20000 in
theorem i118_50 : ex_ X d 118 50 [.ref a, v1] [] h Q = ex_ X d 118 51 [.ref a, v1] [.ref a] h Q := ex_nx (show mx_at 118 50 = some (.aload_n 0, 1) by decide +kernel) rfl
set_option maxRecDepth 20000 in
theorem i118_51_c0 (hc : co_ h a = some 0) : ex_ X d 118 51 [v0, v1] [.ref a] h Q = ex_ X d 118 54 [v0, v1] [.int 0] h Q := R_inst (show mx_at 118 51 = some (.instanceof 310, 3) by decide +kernel) (mx_lko ow118 cl110310) hc ⟨rfl, rfl⟩
set_option maxRecDepth 20000 in
theorem i118_51_c1 (hc : co_ h a = some 1) : ex_ X d 118 51 [v0, v1] [.ref a] h Q = ex_ X d 118 54 [v0, v1] [.int 0] h Q := R_inst (show mx_at 118 51 = some (.instanceof 310, 3) by decide +kernel) (mx_lko ow118 cl110310) hc ⟨rfl, rfl⟩
set_option maxRecDepth 20000 in
theorem i118_51_c2 (hc : co_ h a = some 2) : ex_ X d 118 51 [v0, v1] [.ref a] h Q = ex_ X d 118 54 [v0, v1] [.int 1] h Q := R_inst (show mx_at 118 51 = some (.instanceof 310, 3) by decide +kernel) (mx_lko ow118 cl110310) hc ⟨rfl, rfl⟩
set_option maxRecDepth 20000 in
theorem i118_51_c4 (hc : co_ h a = some 4) : ex_ X d 118 51 [v0, v1] [.ref a] h Q = ex_ X d 118 54 [v0, v1] [.int 0] h Q := R_inst (show mx_at 118 51 = some (.instanceof 310, 3) by decide +kernel) (mx_lko ow118 cl110310) hc ⟨rfl, rfl⟩
set_option maxRecDepth 20000 in
theorem i118_51_c6 (hc : co_ h a = some 6) : ex_ X d 118 51 [v0, v1] [.ref a] h Q = ex_ X d 118 54 [v0, v1] [.int 0] h Q := R_inst (show mx_at 118 51 = some (.instanceof 310, 3) by decide +kernel) (mx_lko ow118 cl110310) hc ⟨rfl, rfl⟩
set_option maxRecDepth 20000 in
theorem i118_51_c8 (hc : co_ h a = some 8) : ex_ X d 118 51 [v0, v1] [.ref a] h Q = ex_ X d 118 54 [v0, v1] [.int 0] h Q := R_inst (show mx_at 118 51 = some (.instanceof 310, 3) by decide +kernel) (mx_lko ow118 cl110310) hc ⟨rfl, rfl⟩
set_option maxRecDepth 20000 in
theorem i118_51_c9 (hc : co_ h a = some 9) : ex_ X d 118 51 [v0, v1] [.ref a] h Q = ex_ X d 118 54 [v0, v1] [.int 0] h Q := R_inst (show mx_at 118 51 = some (.instanceof 310, 3) by decide +kernel) (mx_lko ow118 cl110310) hc ⟨rfl, rfl⟩
set_option maxRecDepth 20000 in
theorem i118_54 (hx : x = 0 ∨ x = 1) : ex_ X d 118 54 [v0, v1] [.int x] h Q = Q (some (.int x)) h := ex_ret (show mx_at 118 54 = some (.ireturn, 1) by decide +kernel) (mx_retZ hx rt118)
set_option maxRecDepth 20000 in
theorem i118_55 : ex_ X d 118 55 [.ref a, v1] [] h Q = ex_ X d 118 56 [.ref a, v1] [.ref a] h Q := ex_nx (show mx_at 118 55 = some (.aload_n 0, 1) by decide +kernel) rfl
set_option maxRecDepth 20000 in
theorem i118_56_c0 (hc : co_ h a = some 0) : ex_ X d 118 56 [v0, v1] [.ref a] h Q = ex_ X d 118 59 [v0, v1] [.int 0] h Q := R_inst (show mx_at 118 56 = some (.instanceof 313, 3) by decide +kernel) (mx_lko ow118 cl110313) hc ⟨rfl, rfl⟩
set_option maxRecDepth 20000 in
theorem i118_56_c1 (hc : co_ h a = some 1) : ex_ X d 118 56 [v0, v1] [.ref a] h Q = ex_ X d 118 59 [v0, v1] [.int 1] h Q := R_inst (show mx_at 118 56 = some (.instanceof 313, 3) by decide +kernel) (mx_lko ow118 cl110313) hc ⟨rfl, rfl⟩
set_option maxRecDepth 20000 in
theorem i118_56_c2 (hc : co_ h a = some 2) : ex_ X d 118 56 [v0, v1] [.ref a] h Q = ex_ X d 118 59 [v0, v1] [.int 0] h Q := R_inst (show mx_at 118 56 = some (.instanceof 313, 3) by decide +kernel) (mx_lko ow118 cl110313) hc ⟨rfl, rfl⟩
set_option maxRecDepth 20000 in
theorem i118_56_c4 (hc : co_ h a = some 4) : ex_ X d 118 56 [v0, v1] [.ref a] h Q = ex_ X d 118 59 [v0, v1] [.int 0] h Q := R_inst (show mx_at 118 56 = some (.instanceof 313, 3) by decide +kernel) (mx_lko ow118 cl110313) hc ⟨rfl, rfl⟩
set_option maxRecDepth 20000 in
theorem i118_56_c6 (hc : co_ h a = some 6) : ex_ X d 118 56 [v0, v1] [.ref a] h Q = ex_ X d 118 59 [v0, v1] [.int 0] h Q := R_inst (show mx_at 118 56 = some (.instanceof 313, 3) by decide +kernel) (mx_lko ow118 cl110313) hc ⟨rfl, rfl⟩
set_option maxRecDepth 20000 in
theorem i118_56_c8 (hc : co_ h a = some 8) : ex_ X d 118 56 [v0, v1] [.ref a] h Q = ex_ X d 118 59 [v0, v1] [.int 0] h Q := R_inst (show mx_at 118 56 = some (.instanceof 313, 3) by decide +kernel) (mx_lko ow118 cl110313) hc ⟨rfl, rfl⟩
set_option maxRecDepth 20000 in
theorem i118_56_c9 (hc : co_ h a = some 9) : ex_ X d 118 56 [v0, v1] [.ref a] h Q = ex_ X d 118 59 [v0, v1] [.int 1] h Q := R_inst (show mx_at 118 56 = some (.instanceof 313, 3) by decide +kernel) (mx_lko ow118 cl110313) hc ⟨rfl, rfl⟩
set_option maxRecDepth 20000 in
theorem i118_59 (hx : x = 0 ∨ x = 1) : ex_ X d 118 59 [v0, v1] [.int x] h Q = Q (some (.int x)) h := ex_ret (show mx_at 118 59 = some (.ireturn, 1) by decide +kernel) (mx_retZ hx rt118)
set_option maxRecDepth 20000 in
theorem i118_60 : ex_ X d 118 60 [.ref a, v1] [] h Q = ex_ X d 118 61 [.ref a, v1] [.ref a] h Q := ex_nx (show mx_at 118 60 = some (.aload_n 0, 1) by decide +kernel) rfl
set_option maxRecDepth 20000 in
theorem i118_61_c0 (hc : co_ h a = some 0) : ex_ X d 118 61 [v0, v1] [.ref a] h Q = ex_ X d 118 64 [v0, v1] [.int 0] h Q := R_inst (show mx_at 118 61 = some (.instanceof 316, 3) by decide +kernel) (mx_lko ow118 cl110316) hc ⟨rfl, rfl⟩
set_option maxRecDepth 20000 in
theorem i118_61_c1 (hc : co_ h a = some 1) : ex_ X d 118 61 [v0, v1] [.ref a] h Q = ex_ X d 118 64 [v0, v1] [.int 0] h Q := R_inst (show mx_at 118 61 = some (.instanceof 316, 3) by decide +kernel) (mx_lko ow118 cl110316) hc ⟨rfl, rfl⟩
set_option maxRecDepth 20000 in
theorem i118_61_c2 (hc : co_ h a = some 2) : ex_ X d 118 61 [v0, v1] [.ref a] h Q = ex_ X d 118 64 [v0, v1] [.int 0] h Q := R_inst (show mx_at 118 61 = some (.instanceof 316, 3) by decide +kernel) (mx_lko ow118 cl110316) hc ⟨rfl, rfl⟩
set_option maxRecDepth 20000 in
theorem i118_61_c4 (hc : co_ h a = some 4) : ex_ X d 118 61 [v0, v1] [.ref a] h Q = ex_ X d 118 64 [v0, v1] [.int 0] h Q := R_inst (show mx_at 118 61 = some (.instanceof 316, 3) by decide +kernel) (mx_lko ow118 cl110316) hc ⟨rfl, rfl⟩
set_option maxRecDepth 20000 in
theorem i118_61_c6 (hc : co_ h a = some 6) : ex_ X d 118 61 [v0, v1] [.ref a] h Q = ex_ X d 118 64 [v0, v1] [.int 0] h Q := R_inst (show mx_at 118 61 = some (.instanceof 316, 3) by decide +kernel) (mx_lko ow118 cl110316) hc ⟨rfl, rfl⟩
set_option maxRecDepth 20000 in
theorem i118_61_c8 (hc : co_ h a = some 8) : ex_ X d 118 61 [v0, v1] [.ref a] h Q = ex_ X d 118 64 [v0, v1] [.int 0] h Q := R_inst (show mx_at 118 61 = some (.instanceof 316, 3) by decide +kernel) (mx_lko ow118 cl110316) hc ⟨rfl, rfl⟩
set_option maxRecDepth 20000 in
theorem i118_61_c9 (hc : co_ h a = some 9) : ex_ X d 118 61 [v0, v1] [.ref a] h Q = ex_ X d 118 64 [v0, v1] [.int 1] h Q := R_inst (show mx_at 118 61 = some (.instanceof 316, 3) by decide +kernel) (mx_lko ow118 cl110316) hc ⟨rfl, rfl⟩
set_option maxRecDepth 20000 in
theorem i118_64 (hx : x = 0 ∨ x = 1) : ex_ X d 118 64 [v0, v1] [.int x] h Q = Q (some (.int x)) h := ex_ret (show mx_at 118 64 = some (.ireturn, 1) by decide +kernel) (mx_retZ hx rt118)
set_option maxRecDepth 20000 in
theorem i118_65 : ex_ X d 118 65 [.ref a, v1] [] h Q = ex_ X d 118 66 [.ref a, v1] [.ref a] h Q := ex_nx (show mx_at 118 65 = some (.aload_n 0, 1) by decide +kernel) rfl
set_option maxRecDepth 20000 in
theorem i118_66_c0 (hc : co_ h a = some 0) : ex_ X d 118 66 [v0, v1] [.ref a] h Q = ex_ X d 118 69 [v0, v1] [.int 0] h Q := R_inst (show mx_at 118 66 = some (.instanceof 319, 3) by decide +kernel) (mx_lko ow118 cl110319) hc ⟨rfl, rfl⟩
set_option maxRecDepth 20000 in
theorem i118_66_c1 (hc : co_ h a = some 1) : ex_ X d 118 66 [v0, v1] [.ref a] h Q = ex_ X d 118 69 [v0, v1] [.int 0] h Q := R_inst (show mx_at 118 66 = some (.instanceof 319, 3) by decide +kernel) (mx_lko ow118 cl110319) hc ⟨rfl, rfl⟩
set_option maxRecDepth 20000 in
theorem i118_66_c2 (hc : co_ h a = some 2) : ex_ X d 118 66 [v0, v1] [.ref a] h Q = ex_ X d 118 69 [v0, v1] [.int 0] h Q := R_inst (show mx_at 118 66 = some (.instanceof 319, 3) by decide +kernel) (mx_lko ow118 cl110319) hc ⟨rfl, rfl⟩
set_option maxRecDepth 20000 in
theorem i118_66_c4 (hc : co_ h a = some 4) : ex_ X d 118 66 [v0, v1] [.ref a] h Q = ex_ X d 118 69 [v0, v1] [.int 1] h Q := R_inst (show mx_at 118 66 = some (.instanceof 319, 3) by decide +kernel) (mx_lko ow118 cl110319) hc ⟨rfl, rfl⟩
set_option maxRecDepth 20000 in
theorem i118_66_c6 (hc : co_ h a = some 6) : ex_ X d 118 66 [v0, v1] [.ref a] h Q = ex_ X d 118 69 [v0, v1] [.int 0] h Q := R_inst (show mx_at 118 66 = some (.instanceof 319, 3) by decide +kernel) (mx_lko ow118 cl110319) hc ⟨rfl, rfl⟩
set_option maxRecDepth 20000 in
theorem i118_66_c8 (hc : co_ h a = some 8) : ex_ X d 118 66 [v0, v1] [.ref a] h Q = ex_ X d 118 69 [v0, v1] [.int 0] h Q := R_inst (show mx_at 118 66 = some (.instanceof 319, 3) by decide +kernel) (mx_lko ow118 cl110319) hc ⟨rfl, rfl⟩
set_option maxRecDepth 20000 in
theorem i118_66_c9 (hc : co_ h a = some 9) : ex_ X d 118 66 [v0, v1] [.ref a] h Q = ex_ X d 118 69 [v0, v1] [.int 0] h Q := R_inst (show mx_at 118 66 = some (.instanceof 319, 3) by decide +kernel) (mx_lko ow118 cl110319) hc ⟨rfl, rfl⟩
set_option maxRecDepth 20000 in
theorem i118_69 (hx : x = 0 ∨ x = 1) : ex_ X d 118 69 [v0, v1] [.int x] h Q = Q (some (.int x)) h := ex_ret (show mx_at 118 69 = some (.ireturn, 1) by decide +kernel) (mx_retZ hx rt118)
set_option maxRecDepth 20000 in
theorem i118_70 : ex_ X d 118 70 [v0, v1] [] h Q = ex_ X d 118 71 [v0, v1] [.int 1] h Q := R_iconst (show mx_at 118 70 = some (.iconst 1, 1) by decide +kernel) (by decide)
set_option maxRecDepth 20000 in
theorem i118_71 (hx : x = 0 ∨ x = 1) : ex_ X d 118 71 [v0, v1] [.int x] h Q = Q (some (.int x)) h := ex_ret (show mx_at 118 71 = some (.ireturn, 1) by decide +kernel) (mx_retZ hx rt118)
theorem i118_e : ev_ X d 118 [.ref a0, .int x1] h Q = ex_ X d 118 0 [.ref a0, .int x1] [] h Q := by rw [ev_, ml118]; rfl
-- 119 X11_ahead
set_option maxRecDepth 20000 in
theorem i119_0 : ex_ X d 119 0 [.ref a, v1] [] h Q = ex_ X d 119 1 [.ref a, v1] [.ref a] h Q := ex_nx (show mx_at 119 0 = some (.aload_n 0, 1) by decide +kernel) rfl
set_option maxRecDepth 20000 in
theorem i119_1 : ex_ X d 119 1 [v0, v1] [.ref a] h Q = (gk_ h a 12 [(11, 0)] = true ∧ ex_ X d 119 4 [v0, v1] [gv_ h a 12] h Q) := R_getf (show mx_at 119 1 = some (.getfield 54, 3) by decide +kernel) (mx_fdo ow119 fd110054)
set_option maxRecDepth 20000 in
theorem i119_4 : ex_ X d 119 4 [.ref a, v1] [w0] h Q = ex_ X d 119 5 [.ref a, v1] [.ref a, w0] h Q := ex_nx (show mx_at 119 4 = some (.aload_n 0, 1) by decide +kernel) rfl
set_option maxRecDepth 20000 in
theorem i119_5 : ex_ X d 119 5 [v0, v1] [.ref a, w0] h Q = (gk_ h a 0 [(11, 0)] = true ∧ ex_ X d 119 8 [v0, v1] [gv_ h a 0, w0] h Q) := R_getf (show mx_at 119 5 = some (.getfield 12, 3) by decide +kernel) (mx_fdo ow119 fd110012)
set_option maxRecDepth 20000 in
theorem i119_8 (hc : co_ h a = some 3) : ex_ X (d + 1) 119 8 [v0, v1] [.ref a0, .ref a] h Q = ev_ X d 11 [.ref a, .ref a0] h (fun r h' => ex_ X (d + 1) 119 11 [v0, v1] (r.toList ++ []) h' Q) := R_vir (show mx_at 119 8 = some (.invokevirtual 230, 3) by decide +kernel) (mx_clk ow119 cc11_230) (Nat.le_of_ble_eq_true rfl) rfl rfl hc rfl (Nat.le_of_ble_eq_true rfl) (Nat.le_of_ble_eq_true rfl) (by rw [ml11]; exact Nat.le_of_ble_eq_true rfl)
set_option maxRecDepth 20000 in
theorem i119_11 : ex_ X d 119 11 [.ref a, v1] [] h Q = ex_ X d 119 12 [.ref a, v1] [.ref a] h Q := ex_nx (show mx_at 119 11 = some (.aload_n 0, 1) by decide +kernel) rfl
set_option maxRecDepth 20000 in
theorem i119_12 : ex_ X d 119 12 [v0, v1] [.ref a] h Q = (gk_ h a 12 [(11, 0)] = true ∧ ex_ X d 119 15 [v0, v1] [gv_ h a 12] h Q) := R_getf (show mx_at 119 12 = some (.getfield 54, 3) by decide +kernel) (mx_fdo ow119 fd110054)
set_option maxRecDepth 20000 in
theorem i119_15 : ex_ X d 119 15 [v0, .int x] [w0] h Q = ex_ X d 119 16 [v0, .int x] [.int x, w0] h Q := ex_nx (show mx_at 119 15 = some (.iload_n 1, 1) by decide +kernel) rfl
set_option maxRecDepth 20000 in
theorem i119_16 (hc : co_ h a = some 3) : ex_ X (d + 1) 119 16 [v0, v1] [.int x0, .ref a] h Q = ev_ X d 20 [.ref a, .int x0] h (fun r h' => ex_ X (d + 1) 119 19 [v0, v1] (r.toList ++ []) h' Q) := R_vir (show mx_at 119 16 = some (.invokevirtual 208, 3) by decide +kernel) (mx_clk ow119 cc11_208) (Nat.le_of_ble_eq_true rfl) rfl rfl hc rfl (Nat.le_of_ble_eq_true rfl) (Nat.le_of_ble_eq_true rfl) (by rw [ml20]; exact Nat.le_of_ble_eq_true rfl)
set_option maxRecDepth 20000 in
theorem i119_19 : ex_ X d 119 19 [.ref a, v1] [] h Q = ex_ X d 119 20 [.ref a, v1] [.ref a] h Q := ex_nx (show mx_at 119 19 = some (.aload_n 0, 1) by decide +kernel) rfl
set_option maxRecDepth 20000 in
theorem i119_20 : ex_ X d 119 20 [v0, v1] [.ref a] h Q = (gk_ h a 12 [(11, 0)] = true ∧ ex_ X d 119 23 [v0, v1] [gv_ h a 12] h Q) := R_getf (show mx_at 119 20 = some (.getfield 54, 3) by decide +kernel) (mx_fdo ow119 fd110054)
set_option maxRecDepth 20000 in
theorem i119_23 : ex_ X d 119 23 [v0, v1] [.ref a] h Q = Q (some (.ref a)) h := ex_ret (show mx_at 119 23 = some (.areturn, 1) by decide +kernel) (mx_retA rt119)
theorem i119_e : ev_ X d 119 [.ref a, .int x0] h Q = ex_ X d 119 0 [.ref a, .int x0] [] h Q := by rw [ev_, ml119]; rfl
-- 120 X11_purseBeginning
set_option maxRecDepth 20000 in
theorem i120_0 : ex_ X d 120 0 [.ref a, v1, v2, v3] [] h Q = ex_ X d 120 1 [.ref a, v1, v2, v3] [.ref a] h Q := ex_nx (show mx_at 120 0 = some (.aload_n 0, 1) by decide +kernel) rfl
set_option maxRecDepth 20000 in
theorem i120_1 : ex_ X d 120 1 [v0, v1, v2, v3] [.ref a] h Q = (gk_ h a 12 [(11, 0)] = true ∧ ex_ X d 120 4 [v0, v1, v2, v3] [gv_ h a 12] h Q) := R_getf (show mx_at 120 1 = some (.getfield 54, 3) by decide +kernel) (mx_fdo ow120 fd110054)
set_option maxRecDepth 20000 in
theorem i120_4 : ex_ X d 120 4 [.ref a, v1, v2, v3] [w0] h Q = ex_ X d 120 5 [.ref a, v1, v2, v3] [.ref a, w0] h Q := ex_nx (show mx_at 120 4 = some (.aload_n 0, 1) by decide +kernel) rfl
set_option maxRecDepth 20000 in
theorem i120_5 : ex_ X d 120 5 [v0, v1, v2, v3] [.ref a, w0] h Q = (gk_ h a 0 [(11, 0)] = true ∧ ex_ X d 120 8 [v0, v1, v2, v3] [gv_ h a 0, w0] h Q) := R_getf (show mx_at 120 5 = some (.getfield 12, 3) by decide +kernel) (mx_fdo ow120 fd110012)
set_option maxRecDepth 20000 in
theorem i120_8 (hc : co_ h a = some 3) : ex_ X (d + 1) 120 8 [v0, v1, v2, v3] [.ref a0, .ref a] h Q = ev_ X d 11 [.ref a, .ref a0] h (fun r h' => ex_ X (d + 1) 120 11 [v0, v1, v2, v3] (r.toList ++ []) h' Q) := R_vir (show mx_at 120 8 = some (.invokevirtual 230, 3) by decide +kernel) (mx_clk ow120 cc11_230) (Nat.le_of_ble_eq_true rfl) rfl rfl hc rfl (Nat.le_of_ble_eq_true rfl) (Nat.le_of_ble_eq_true rfl) (by rw [ml11]; exact Nat.le_of_ble_eq_true rfl)
set_option maxRecDepth 20000 in
theorem i120_11 : ex_ X d 120 11 [.ref a, v1, v2, v3] [] h Q = ex_ X d 120 12 [.ref a, v1, v2, v3] [.ref a] h Q := ex_nx (show mx_at 120 11 = some (.aload_n 0, 1) by decide +kernel) rfl
set_option maxRecDepth 20000 in
theorem i120_12 : ex_ X d 120 12 [v0, v1, v2, v3] [.ref a] h Q = (gk_ h a 12 [(11, 0)] = true ∧ ex_ X d 120 15 [v0, v1, v2, v3] [gv_ h a 12] h Q) := R_getf (show mx_at 120 12 = some (.getfield 54, 3) by decide +kernel) (mx_fdo ow120 fd110054)
set_option maxRecDepth 20000 in
theorem i120_15 : ex_ X d 120 15 [v0, v1, v2, v3] [.ref a] h Q = (gk_ h a 10 [(3, 0)] = true ∧ ex_ X d 120 18 [v0, v1, v2, v3] [gv_ h a 10] h Q) := R_getf (show mx_at 120 15 = some (.getfield 105, 3) by decide +kernel) (mx_fdo ow120 fd110105)
set_option maxRecDepth 20000 in
theorem i120_18 : ex_ X d 120 18 [v0, .int x, v2, v3] [w0] h Q = ex_ X d 120 19 [v0, .int x, v2, v3] [.int x, w0] h Q := ex_nx (show mx_at 120 18 = some (.iload_n 1, 1) by decide +kernel) rfl
set_option maxRecDepth 20000 in
theorem i120_19 : ex_ X d 120 19 [v0, v1, .int x, v3] [w0, w1] h Q = ex_ X d 120 20 [v0, v1, .int x, v3] [.int x, w0, w1] h Q := ex_nx (show mx_at 120 19 = some (.iload_n 2, 1) by decide +kernel) rfl
set_option maxRecDepth 20000 in
theorem i120_20 : ex_ X d 120 20 [v0, v1, v2, v3] [.int x, .int i, .ref a] h Q = (ik_ h a i = true ∧ ex_ X d 120 21 [v0, v1, v2, v3] [] (is_ h a i x) Q) := R_iast (show mx_at 120 20 = some (.iastore, 1) by decide +kernel)
set_option maxRecDepth 20000 in
theorem i120_21 : ex_ X d 120 21 [.ref a, v1, v2, v3] [] h Q = ex_ X d 120 22 [.ref a, v1, v2, v3] [.ref a] h Q := ex_nx (show mx_at 120 21 = some (.aload_n 0, 1) by decide +kernel) rfl
set_option maxRecDepth 20000 in
theorem i120_22 : ex_ X d 120 22 [v0, v1, v2, v3] [.ref a] h Q = (gk_ h a 12 [(11, 0)] = true ∧ ex_ X d 120 25 [v0, v1, v2, v3] [gv_ h a 12] h Q) := R_getf (show mx_at 120 22 = some (.getfield 54, 3) by decide +kernel) (mx_fdo ow120 fd110054)
set_option maxRecDepth 20000 in
theorem i120_25 : ex_ X d 120 25 [v0, v1, v2, .int x] [w0] h Q = ex_ X d 120 26 [v0, v1, v2, .int x] [.int x, w0] h Q := ex_nx (show mx_at 120 25 = some (.iload_n 3, 1) by decide +kernel) rfl
set_option maxRecDepth 20000 in
theorem i120_26 (hc : co_ h a = some 3) : ex_ X (d + 1) 120 26 [v0, v1, v2, v3] [.int x0, .ref a] h Q = ev_ X d 20 [.ref a, .int x0] h (fun r h' => ex_ X (d + 1) 120 29 [v0, v1, v2, v3] (r.toList ++ []) h' Q) := R_vir (show mx_at 120 26 = some (.invokevirtual 208, 3) by decide +kernel) (mx_clk ow120 cc11_208) (Nat.le_of_ble_eq_true rfl) rfl rfl hc rfl (Nat.le_of_ble_eq_true rfl) (Nat.le_of_ble_eq_true rfl) (by rw [ml20]; exact Nat.le_of_ble_eq_true rfl)
set_option maxRecDepth 20000 in
theorem i120_29 : ex_ X d 120 29 [.ref a, v1, v2, v3] [] h Q = ex_ X d 120 30 [.ref a, v1, v2, v3] [.ref a] h Q := ex_nx (show mx_at 120 29 = some (.aload_n 0, 1) by decide +kernel) rfl
set_option maxRecDepth 20000 in
theorem i120_30 : ex_ X d 120 30 [v0, v1, v2, v3] [.ref a] h Q = (gk_ h a 12 [(11, 0)] = true ∧ ex_ X d 120 33 [v0, v1, v2, v3] [gv_ h a 12] h Q) := R_getf (show mx_at 120 30 = some (.getfield 54, 3) by decide +kernel) (mx_fdo ow120 fd110054)
set_option maxRecDepth 20000 in
theorem i120_33 : ex_ X d 120 33 [v0, v1, v2, v3] [.ref a] h Q = (gk_ h a 9 [(3, 0)] = true ∧ ex_ X d 120 36 [v0, v1, v2, v3] [gv_ h a 9] h Q) := R_getf (show mx_at 120 33 = some (.getfield 102, 3) by decide +kernel) (mx_fdo ow120 fd110102)
set_option maxRecDepth 20000 in
theorem i120_36 : ex_ X d 120 36 [v0, .int x, v2, v3] [w0] h Q = ex_ X d 120 37 [v0, .int x, v2, v3] [.int x, w0] h Q := ex_nx (show mx_at 120 36 = some (.iload_n 1, 1) by decide +kernel) rfl
set_option maxRecDepth 20000 in
theorem i120_37 : ex_ X d 120 37 [v0, v1, v2, v3] [.int i, .ref a] h Q = (ik_ h a i = true ∧ ex_ X d 120 38 [v0, v1, v2, v3] [.int (ia_ h a i)] h Q) := R_iald (show mx_at 120 37 = some (.iaload, 1) by decide +kernel)
set_option maxRecDepth 20000 in
theorem i120_38 : ex_ X d 120 38 [v0, v1, v2, v3] [.int x] h Q = Q (some (.int x)) h := ex_ret (show mx_at 120 38 = some (.ireturn, 1) by decide +kernel) (mx_retI rt120)
theorem i120_e : ev_ X d 120 [.ref a, .int x0, .int x1, .int x2] h Q = ex_ X d 120 0 [.ref a, .int x0, .int x1, .int x2] [] h Q := by rw [ev_, ml120]; rfl
-- 121 X11_tryCuts
set_option maxRecDepth 20000 in
theorem i121_0 : ex_ X d 121 0 [v0, v1, v2, v3, v4, .int x, v6, v7, v8, v9, v10] [] h Q = ex_ X d 121 2 [v0, v1, v2, v3, v4, .int x, v6, v7, v8, v9, v10] [.int x] h Q := ex_nx (show mx_at 121 0 = some (.iload 5, 2) by decide +kernel) rfl
set_option maxRecDepth 20000 in
theorem i121_2 : ex_ X d 121 2 [v0, v1, v2, v3, .int x, v5, v6, v7, v8, v9, v10] [w0] h Q = ex_ X d 121 4 [v0, v1, v2, v3, .int x, v5, v6, v7, v8, v9, v10] [.int x, w0] h Q := ex_nx (show mx_at 121 2 = some (.iload 4, 2) by decide +kernel) rfl
set_option maxRecDepth 20000 in
theorem i121_4 : ex_ X d 121 4 [v0, v1, v2, v3, v4, v5, v6, v7, v8, v9, v10] [.int y, .int x] h Q = if y ≤ x then ex_ X d 121 13 [v0, v1, v2, v3, v4, v5, v6, v7, v8, v9, v10] [] h Q else ex_ X d 121 7 [v0, v1, v2, v3, v4, v5, v6, v7, v8, v9, v10] [] h Q := (R_br (show mx_at 121 4 = some (.if_icmp .ge 9, 3) by decide +kernel) rfl rfl).trans mx_ite
set_option maxRecDepth 20000 in
theorem i121_7 : ex_ X d 121 7 [v0, v1, v2, v3, v4, .int x, v6, v7, v8, v9, v10] [] h Q = ex_ X d 121 9 [v0, v1, v2, v3, v4, .int x, v6, v7, v8, v9, v10] [.int x] h Q := ex_nx (show mx_at 121 7 = some (.iload 5, 2) by decide +kernel) rfl
set_option maxRecDepth 20000 in
theorem i121_9 : ex_ X d 121 9 [v0, v1, v2, v3, v4, v5, v6, v7, v8, v9, v10] [w0] h Q = ex_ X d 121 10 [v0, v1, v2, v3, v4, v5, v6, v7, v8, v9, v10] [.int 3, w0] h Q := R_iconst (show mx_at 121 9 = some (.iconst 3, 1) by decide +kernel) (by decide)
set_option maxRecDepth 20000 in
theorem i121_10 : ex_ X d 121 10 [v0, v1, v2, v3, v4, v5, v6, v7, v8, v9, v10] [.int y, .int x] h Q = if x < y then ex_ X d 121 51 [v0, v1, v2, v3, v4, v5, v6, v7, v8, v9, v10] [] h Q else ex_ X d 121 13 [v0, v1, v2, v3, v4, v5, v6, v7, v8, v9, v10] [] h Q := (R_br (show mx_at 121 10 = some (.if_icmp .lt 41, 3) by decide +kernel) rfl rfl).trans mx_ite
set_option maxRecDepth 20000 in
theorem i121_13 : ex_ X d 121 13 [v0, .ref a, v2, v3, v4, v5, v6, v7, v8, v9, v10] [] h Q = ex_ X d 121 14 [v0, .ref a, v2, v3, v4, v5, v6, v7, v8, v9, v10] [.ref a] h Q := ex_nx (show mx_at 121 13 = some (.aload_n 1, 1) by decide +kernel) rfl
set_option maxRecDepth 20000 in
theorem i121_13f0 : ex_ X d 121 13 [v0, .float 0, v2, v3, v4, v5, v6, v7, v8, v9, v10] [] h Q = ex_ X d 121 14 [v0, .float 0, v2, v3, v4, v5, v6, v7, v8, v9, v10] [.float 0] h Q := ex_nx (show mx_at 121 13 = some (.aload_n 1, 1) by decide +kernel) rfl
set_option maxRecDepth 20000 in
theorem i121_14 : ex_ X d 121 14 [v0, v1, v2, v3, v4, v5, v6, v7, v8, v9, v10] [.ref a] h Q = (gk_ h a 9 [(3, 0)] = true ∧ ex_ X d 121 17 [v0, v1, v2, v3, v4, v5, v6, v7, v8, v9, v10] [gv_ h a 9] h Q) := R_getf (show mx_at 121 14 = some (.getfield 102, 3) by decide +kernel) (mx_fdo ow121 fd110102)
set_option maxRecDepth 20000 in
theorem i121_17 : ex_ X d 121 17 [v0, v1, .int x, v3, v4, v5, v6, v7, v8, v9, v10] [w0] h Q = ex_ X d 121 18 [v0, v1, .int x, v3, v4, v5, v6, v7, v8, v9, v10] [.int x, w0] h Q := ex_nx (show mx_at 121 17 = some (.iload_n 2, 1) by decide +kernel) rfl
set_option maxRecDepth 20000 in
theorem i121_18 : ex_ X d 121 18 [v0, v1, v2, v3, v4, v5, v6, v7, v8, v9, v10] [.int i, .ref a] h Q = (ik_ h a i = true ∧ ex_ X d 121 19 [v0, v1, v2, v3, v4, v5, v6, v7, v8, v9, v10] [.int (ia_ h a i)] h Q) := R_iald (show mx_at 121 18 = some (.iaload, 1) by decide +kernel)
set_option maxRecDepth 20000 in
theorem i121_18f : ex_ X d 121 18 [v0, v1, v2, v3, v4, v5, v6, v7, v8, v9, v10] [.int i, .float 0] h Q = (mx_in i 5 = true ∧ ex_ X d 121 19 [v0, v1, v2, v3, v4, v5, v6, v7, v8, v9, v10] [.int (mx_cuts i.toNatClampNeg)] h Q) := R_ialdx (show mx_at 121 18 = some (.iaload, 1) by decide +kernel) rfl
set_option maxRecDepth 20000 in
theorem i121_19 : ex_ X d 121 19 [.ref a, v1, v2, v3, v4, v5, v6, v7, v8, v9, v10] [w0] h Q = ex_ X d 121 20 [.ref a, v1, v2, v3, v4, v5, v6, v7, v8, v9, v10] [.ref a, w0] h Q := ex_nx (show mx_at 121 19 = some (.aload_n 0, 1) by decide +kernel) rfl
set_option maxRecDepth 20000 in
theorem i121_19f0 : ex_ X d 121 19 [.float 0, v1, v2, v3, v4, v5, v6, v7, v8, v9, v10] [w0] h Q = ex_ X d 121 20 [.float 0, v1, v2, v3, v4, v5, v6, v7, v8, v9, v10] [.float 0, w0] h Q := ex_nx (show mx_at 121 19 = some (.aload_n 0, 1) by decide +kernel) rfl
set_option maxRecDepth 20000 in
theorem i121_20 : ex_ X d 121 20 [v0, v1, v2, v3, v4, v5, v6, v7, v8, v9, v10] [.ref a, w0] h Q = (gk_ h a 16 [(11, 0)] = true ∧ ex_ X d 121 23 [v0, v1, v2, v3, v4, v5, v6, v7, v8, v9, v10] [gv_ h a 16, w0] h Q) := R_getf (show mx_at 121 20 = some (.getfield 238, 3) by decide +kernel) (mx_fdo ow121 fd110238)
set_option maxRecDepth 20000 in
theorem i121_23 : ex_ X d 121 23 [v0, v1, v2, v3, v4, v5, v6, v7, v8, v9, v10] [.int y, .int x] h Q = if x ≤ y then ex_ X d 121 50 [v0, v1, v2, v3, v4, v5, v6, v7, v8, v9, v10] [] h Q else ex_ X d 121 26 [v0, v1, v2, v3, v4, v5, v6, v7, v8, v9, v10] [] h Q := (R_br (show mx_at 121 23 = some (.if_icmp .le 27, 3) by decide +kernel) rfl rfl).trans mx_ite
set_option maxRecDepth 20000 in
theorem i121_26 : ex_ X d 121 26 [.ref a, v1, v2, v3, v4, v5, v6, v7, v8, v9, v10] [] h Q = ex_ X d 121 27 [.ref a, v1, v2, v3, v4, v5, v6, v7, v8, v9, v10] [.ref a] h Q := ex_nx (show mx_at 121 26 = some (.aload_n 0, 1) by decide +kernel) rfl
set_option maxRecDepth 20000 in
theorem i121_26f0 : ex_ X d 121 26 [.float 0, v1, v2, v3, v4, v5, v6, v7, v8, v9, v10] [] h Q = ex_ X d 121 27 [.float 0, v1, v2, v3, v4, v5, v6, v7, v8, v9, v10] [.float 0] h Q := ex_nx (show mx_at 121 26 = some (.aload_n 0, 1) by decide +kernel) rfl
set_option maxRecDepth 20000 in
theorem i121_27 : ex_ X d 121 27 [v0, .ref a, v2, v3, v4, v5, v6, v7, v8, v9, v10] [w0] h Q = ex_ X d 121 28 [v0, .ref a, v2, v3, v4, v5, v6, v7, v8, v9, v10] [.ref a, w0] h Q := ex_nx (show mx_at 121 27 = some (.aload_n 1, 1) by decide +kernel) rfl
set_option maxRecDepth 20000 in
theorem i121_27f0 : ex_ X d 121 27 [v0, .float 0, v2, v3, v4, v5, v6, v7, v8, v9, v10] [w0] h Q = ex_ X d 121 28 [v0, .float 0, v2, v3, v4, v5, v6, v7, v8, v9, v10] [.float 0, w0] h Q := ex_nx (show mx_at 121 27 = some (.aload_n 1, 1) by decide +kernel) rfl
set_option maxRecDepth 20000 in
theorem i121_28 : ex_ X d 121 28 [v0, v1, v2, v3, v4, v5, v6, v7, v8, v9, v10] [.ref a, w0] h Q = (gk_ h a 9 [(3, 0)] = true ∧ ex_ X d 121 31 [v0, v1, v2, v3, v4, v5, v6, v7, v8, v9, v10] [gv_ h a 9, w0] h Q) := R_getf (show mx_at 121 28 = some (.getfield 102, 3) by decide +kernel) (mx_fdo ow121 fd110102)
set_option maxRecDepth 20000 in
theorem i121_31 : ex_ X d 121 31 [v0, v1, .int x, v3, v4, v5, v6, v7, v8, v9, v10] [w0, w1] h Q = ex_ X d 121 32 [v0, v1, .int x, v3, v4, v5, v6, v7, v8, v9, v10] [.int x, w0, w1] h Q := ex_nx (show mx_at 121 31 = some (.iload_n 2, 1) by decide +kernel) rfl
set_option maxRecDepth 20000 in
theorem i121_32 : ex_ X d 121 32 [v0, v1, v2, v3, v4, v5, v6, v7, v8, v9, v10] [.int i, .ref a, w0] h Q = (ik_ h a i = true ∧ ex_ X d 121 33 [v0, v1, v2, v3, v4, v5, v6, v7, v8, v9, v10] [.int (ia_ h a i), w0] h Q) := R_iald (show mx_at 121 32 = some (.iaload, 1) by decide +kernel)
set_option maxRecDepth 20000 in
theorem i121_32f : ex_ X d 121 32 [v0, v1, v2, v3, v4, v5, v6, v7, v8, v9, v10] [.int i, .float 0, w0] h Q = (mx_in i 5 = true ∧ ex_ X d 121 33 [v0, v1, v2, v3, v4, v5, v6, v7, v8, v9, v10] [.int (mx_cuts i.toNatClampNeg), w0] h Q) := R_ialdx (show mx_at 121 32 = some (.iaload, 1) by decide +kernel) rfl
set_option maxRecDepth 20000 in
theorem i121_33 : ex_ X d 121 33 [v0, v1, v2, v3, v4, v5, v6, v7, v8, v9, v10] [w, .ref a] h Q = (pk_ 121 h a 16 w [(11, 0)] = true ∧ ex_ X d 121 36 [v0, v1, v2, v3, v4, v5, v6, v7, v8, v9, v10] [] (pf_ h a 16 w) Q) := R_putf (show mx_at 121 33 = some (.putfield 238, 3) by decide +kernel) (mx_fdo ow121 fd110238)
set_option maxRecDepth 20000 in
theorem i121_36 : ex_ X d 121 36 [.ref a, v1, v2, v3, v4, v5, v6, v7, v8, v9, v10] [] h Q = ex_ X d 121 37 [.ref a, v1, v2, v3, v4, v5, v6, v7, v8, v9, v10] [.ref a] h Q := ex_nx (show mx_at 121 36 = some (.aload_n 0, 1) by decide +kernel) rfl
set_option maxRecDepth 20000 in
theorem i121_36f0 : ex_ X d 121 36 [.float 0, v1, v2, v3, v4, v5, v6, v7, v8, v9, v10] [] h Q = ex_ X d 121 37 [.float 0, v1, v2, v3, v4, v5, v6, v7, v8, v9, v10] [.float 0] h Q := ex_nx (show mx_at 121 36 = some (.aload_n 0, 1) by decide +kernel) rfl
set_option maxRecDepth 20000 in
theorem i121_37 : ex_ X d 121 37 [v0, v1, v2, v3, v4, v5, v6, v7, v8, v9, v10] [.ref a] h Q = (gk_ h a 14 [(11, 0)] = true ∧ ex_ X d 121 40 [v0, v1, v2, v3, v4, v5, v6, v7, v8, v9, v10] [gv_ h a 14] h Q) := R_getf (show mx_at 121 37 = some (.getfield 61, 3) by decide +kernel) (mx_fdo ow121 fd110061)
set_option maxRecDepth 20000 in
theorem i121_40 : ex_ X d 121 40 [v0, v1, v2, v3, v4, v5, v6, v7, v8, v9, v10] [w0] h Q = ex_ X d 121 41 [v0, v1, v2, v3, v4, v5, v6, v7, v8, v9, v10] [.int 0, w0] h Q := R_iconst (show mx_at 121 40 = some (.iconst 0, 1) by decide +kernel) (by decide)
set_option maxRecDepth 20000 in
theorem i121_41 : ex_ X d 121 41 [.ref a, v1, v2, v3, v4, v5, v6, v7, v8, v9, v10] [w0, w1] h Q = ex_ X d 121 42 [.ref a, v1, v2, v3, v4, v5, v6, v7, v8, v9, v10] [.ref a, w0, w1] h Q := ex_nx (show mx_at 121 41 = some (.aload_n 0, 1) by decide +kernel) rfl
set_option maxRecDepth 20000 in
theorem i121_41f0 : ex_ X d 121 41 [.float 0, v1, v2, v3, v4, v5, v6, v7, v8, v9, v10] [w0, w1] h Q = ex_ X d 121 42 [.float 0, v1, v2, v3, v4, v5, v6, v7, v8, v9, v10] [.float 0, w0, w1] h Q := ex_nx (show mx_at 121 41 = some (.aload_n 0, 1) by decide +kernel) rfl
set_option maxRecDepth 20000 in
theorem i121_42 : ex_ X d 121 42 [v0, v1, v2, v3, v4, v5, v6, v7, v8, v9, v10] [.ref a, w0, w1] h Q = (gk_ h a 15 [(11, 0)] = true ∧ ex_ X d 121 45 [v0, v1, v2, v3, v4, v5, v6, v7, v8, v9, v10] [gv_ h a 15, w0, w1] h Q) := R_getf (show mx_at 121 42 = some (.getfield 64, 3) by decide +kernel) (mx_fdo ow121 fd110064)
set_option maxRecDepth 20000 in
theorem i121_45 : ex_ X d 121 45 [v0, v1, v2, v3, v4, v5, v6, v7, v8, v9, v10] [w0, w1, w2] h Q = ex_ X d 121 46 [v0, v1, v2, v3, v4, v5, v6, v7, v8, v9, v10] [.int 0, w0, w1, w2] h Q := R_iconst (show mx_at 121 45 = some (.iconst 0, 1) by decide +kernel) (by decide)
set_option maxRecDepth 20000 in
theorem i121_46 : ex_ X d 121 46 [v0, v1, v2, v3, v4, v5, v6, v7, v8, v9, v10] [w0, w1, w2, w3] h Q = ex_ X d 121 47 [v0, v1, v2, v3, v4, v5, v6, v7, v8, v9, v10] [.int 3, w0, w1, w2, w3] h Q := R_iconst (show mx_at 121 46 = some (.iconst 3, 1) by decide +kernel) (by decide)
set_option maxRecDepth 20000 in
theorem i121_47 : ex_ X (d + 1) 121 47 [v0, v1, v2, v3, v4, v5, v6, v7, v8, v9, v10] [.int x, .int y, .ref a, .int z, .ref b] h Q = (ck_ h a b z y x = true ∧ ex_ X (d + 1) 121 50 [v0, v1, v2, v3, v4, v5, v6, v7, v8, v9, v10] [] (cs_ h a b z y x) Q) := R_copy (show mx_at 121 47 = some (.invokestatic 277, 3) by decide +kernel) (mx_clk ow121 cc11_277) (Nat.le_of_ble_eq_true rfl)
set_option maxRecDepth 20000 in
theorem i121_50 : ex_ X d 121 50 [v0, v1, v2, v3, v4, v5, v6, v7, v8, v9, v10] [] h Q = Q none h := ex_ret (show mx_at 121 50 = some (.return_, 1) by decide +kernel) (mx_retV rt121)
set_option maxRecDepth 20000 in
theorem i121_51 : ex_ X d 121 51 [.ref a, v1, v2, v3, v4, v5, v6, v7, v8, v9, v10] [] h Q = ex_ X d 121 52 [.ref a, v1, v2, v3, v4, v5, v6, v7, v8, v9, v10] [.ref a] h Q := ex_nx (show mx_at 121 51 = some (.aload_n 0, 1) by decide +kernel) rfl
set_option maxRecDepth 20000 in
theorem i121_51f0 : ex_ X d 121 51 [.float 0, v1, v2, v3, v4, v5, v6, v7, v8, v9, v10] [] h Q = ex_ X d 121 52 [.float 0, v1, v2, v3, v4, v5, v6, v7, v8, v9, v10] [.float 0] h Q := ex_nx (show mx_at 121 51 = some (.aload_n 0, 1) by decide +kernel) rfl
set_option maxRecDepth 20000 in
theorem i121_52 : ex_ X d 121 52 [v0, v1, v2, v3, v4, v5, v6, v7, v8, v9, v10] [.ref a] h Q = (gk_ h a 13 [(11, 0)] = true ∧ ex_ X d 121 55 [v0, v1, v2, v3, v4, v5, v6, v7, v8, v9, v10] [gv_ h a 13] h Q) := R_getf (show mx_at 121 52 = some (.getfield 57, 3) by decide +kernel) (mx_fdo ow121 fd110057)
set_option maxRecDepth 20000 in
theorem i121_55 : ex_ X d 121 55 [v0, v1, v2, v3, v4, .int x, v6, v7, v8, v9, v10] [w0] h Q = ex_ X d 121 57 [v0, v1, v2, v3, v4, .int x, v6, v7, v8, v9, v10] [.int x, w0] h Q := ex_nx (show mx_at 121 55 = some (.iload 5, 2) by decide +kernel) rfl
set_option maxRecDepth 20000 in
theorem i121_57 : ex_ X d 121 57 [v0, v1, v2, v3, v4, v5, v6, v7, v8, v9, v10] [.int i, .ref a] h Q = (rk_ h a i = true ∧ ex_ X d 121 58 [v0, v1, v2, v3, v4, v5, v6, v7, v8, v9, v10] [mx_vr (ra_ h a i)] h Q) := R_aald (show mx_at 121 57 = some (.aaload, 1) by decide +kernel)
set_option maxRecDepth 20000 in
theorem i121_58 : ex_ X d 121 58 [v0, v1, v2, v3, v4, v5, v6, v7, v8, v9, v10] [.ref a] h Q = (mx_nl v5 = true ∧ ex_ X d 121 60 [v0, v1, v2, v3, v4, v5, .ref a, v7, v8, v9, v10] [] h Q) := mx_t1 (R_st (ok := mx_isA) (n := 6) (w := 2) (show mx_at 121 58 = some (.astore 6, 2) by decide +kernel) (fun _ _ => rfl) (Nat.le_of_ble_eq_true rfl)) rfl
set_option maxRecDepth 20000 in
theorem i121_58f : ex_ X d 121 58 [v0, v1, v2, v3, v4, v5, v6, v7, v8, v9, v10] [.float 0] h Q = (mx_nl v5 = true ∧ ex_ X d 121 60 [v0, v1, v2, v3, v4, v5, .float 0, v7, v8, v9, v10] [] h Q) := mx_t1 (R_st (ok := mx_isA) (n := 6) (w := 2) (show mx_at 121 58 = some (.astore 6, 2) by decide +kernel) (fun _ _ => rfl) (Nat.le_of_ble_eq_true rfl)) rfl
set_option maxRecDepth 20000 in
theorem i121_60 : ex_ X d 121 60 [v0, v1, v2, v3, v4, v5, v6, v7, v8, v9, v10] [] h Q = ex_ X d 121 63 [v0, v1, v2, v3, v4, v5, v6, v7, v8, v9, v10] [.float 0] h Q := R_gets (show mx_at 121 60 = some (.getstatic 323, 3) by decide +kernel) (by decide +kernel)
set_option maxRecDepth 20000 in
theorem i121_63 : ex_ X d 121 63 [v0, v1, v2, v3, v4, v5, v6, v7, v8, v9, v10] [.ref a] h Q = (mx_nl v6 = true ∧ ex_ X d 121 65 [v0, v1, v2, v3, v4, v5, v6, .ref a, v8, v9, v10] [] h Q) := mx_t1 (R_st (ok := mx_isA) (n := 7) (w := 2) (show mx_at 121 63 = some (.astore 7, 2) by decide +kernel) (fun _ _ => rfl) (Nat.le_of_ble_eq_true rfl)) rfl
set_option maxRecDepth 20000 in
theorem i121_63f : ex_ X d 121 63 [v0, v1, v2, v3, v4, v5, v6, v7, v8, v9, v10] [.float 0] h Q = (mx_nl v6 = true ∧ ex_ X d 121 65 [v0, v1, v2, v3, v4, v5, v6, .float 0, v8, v9, v10] [] h Q) := mx_t1 (R_st (ok := mx_isA) (n := 7) (w := 2) (show mx_at 121 63 = some (.astore 7, 2) by decide +kernel) (fun _ _ => rfl) (Nat.le_of_ble_eq_true rfl)) rfl
set_option maxRecDepth 20000 in
theorem i121_65 : ex_ X d 121 65 [v0, v1, v2, v3, v4, v5, v6, .ref a, v8, v9, v10] [] h Q = ex_ X d 121 67 [v0, v1, v2, v3, v4, v5, v6, .ref a, v8, v9, v10] [.ref a] h Q := ex_nx (show mx_at 121 65 = some (.aload 7, 2) by decide +kernel) rfl
set_option maxRecDepth 20000 in
theorem i121_65f0 : ex_ X d 121 65 [v0, v1, v2, v3, v4, v5, v6, .float 0, v8, v9, v10] [] h Q = ex_ X d 121 67 [v0, v1, v2, v3, v4, v5, v6, .float 0, v8, v9, v10] [.float 0] h Q := ex_nx (show mx_at 121 65 = some (.aload 7, 2) by decide +kernel) rfl
set_option maxRecDepth 20000 in
theorem i121_67 (ha : al_ h a = some b) : ex_ X d 121 67 [v0, v1, v2, v3, v4, v5, v6, v7, v8, v9, v10] [.ref a] h Q = ex_ X d 121 68 [v0, v1, v2, v3, v4, v5, v6, v7, v8, v9, v10] [.int (Int32.ofNat b)] h Q := R_alen (show mx_at 121 67 = some (.arraylength, 1) by decide +kernel) ha
set_option maxRecDepth 20000 in
theorem i121_67f : ex_ X d 121 67 [v0, v1, v2, v3, v4, v5, v6, v7, v8, v9, v10] [.float 0] h Q = ex_ X d 121 68 [v0, v1, v2, v3, v4, v5, v6, v7, v8, v9, v10] [.int 5] h Q := R_alenx (f := mx_cuts) (show mx_at 121 67 = some (.arraylength, 1) by decide +kernel) rfl
set_option maxRecDepth 20000 in
theorem i121_68 : ex_ X d 121 68 [v0, v1, v2, v3, v4, v5, v6, v7, v8, v9, v10] [.int x] h Q = (mx_nl v7 = true ∧ ex_ X d 121 70 [v0, v1, v2, v3, v4, v5, v6, v7, .int x, v9, v10] [] h Q) := mx_t1 (R_st (ok := mx_isI) (n := 8) (w := 2) (show mx_at 121 68 = some (.istore 8, 2) by decide +kernel) (fun _ _ => rfl) (Nat.le_of_ble_eq_true rfl)) rfl
set_option maxRecDepth 20000 in
theorem i121_70 : ex_ X d 121 70 [v0, v1, v2, v3, v4, v5, v6, v7, v8, v9, v10] [] h Q = ex_ X d 121 71 [v0, v1, v2, v3, v4, v5, v6, v7, v8, v9, v10] [.int 0] h Q := R_iconst (show mx_at 121 70 = some (.iconst 0, 1) by decide +kernel) (by decide)
set_option maxRecDepth 20000 in
theorem i121_71 : ex_ X d 121 71 [v0, v1, v2, v3, v4, v5, v6, v7, v8, v9, v10] [.int x] h Q = (mx_nl v8 = true ∧ ex_ X d 121 73 [v0, v1, v2, v3, v4, v5, v6, v7, v8, .int x, v10] [] h Q) := mx_t1 (R_st (ok := mx_isI) (n := 9) (w := 2) (show mx_at 121 71 = some (.istore 9, 2) by decide +kernel) (fun _ _ => rfl) (Nat.le_of_ble_eq_true rfl)) rfl
set_option maxRecDepth 20000 in
theorem i121_73 : ex_ X d 121 73 [v0, v1, v2, v3, v4, v5, v6, v7, v8, .int x, v10] [] h Q = ex_ X d 121 75 [v0, v1, v2, v3, v4, v5, v6, v7, v8, .int x, v10] [.int x] h Q := ex_nx (show mx_at 121 73 = some (.iload 9, 2) by decide +kernel) rfl
set_option maxRecDepth 20000 in
theorem i121_75 : ex_ X d 121 75 [v0, v1, v2, v3, v4, v5, v6, v7, .int x, v9, v10] [w0] h Q = ex_ X d 121 77 [v0, v1, v2, v3, v4, v5, v6, v7, .int x, v9, v10] [.int x, w0] h Q := ex_nx (show mx_at 121 75 = some (.iload 8, 2) by decide +kernel) rfl
set_option maxRecDepth 20000 in
theorem i121_77 : ex_ X d 121 77 [v0, v1, v2, v3, v4, v5, v6, v7, v8, v9, v10] [.int y, .int x] h Q = if y ≤ x then ex_ X d 121 136 [v0, v1, v2, v3, v4, v5, v6, v7, v8, v9, v10] [] h Q else ex_ X d 121 80 [v0, v1, v2, v3, v4, v5, v6, v7, v8, v9, v10] [] h Q := (R_br (show mx_at 121 77 = some (.if_icmp .ge 59, 3) by decide +kernel) rfl rfl).trans mx_ite
set_option maxRecDepth 20000 in
theorem i121_80 : ex_ X d 121 80 [v0, v1, v2, v3, v4, v5, v6, .ref a, v8, v9, v10] [] h Q = ex_ X d 121 82 [v0, v1, v2, v3, v4, v5, v6, .ref a, v8, v9, v10] [.ref a] h Q := ex_nx (show mx_at 121 80 = some (.aload 7, 2) by decide +kernel) rfl
set_option maxRecDepth 20000 in
theorem i121_80f0 : ex_ X d 121 80 [v0, v1, v2, v3, v4, v5, v6, .float 0, v8, v9, v10] [] h Q = ex_ X d 121 82 [v0, v1, v2, v3, v4, v5, v6, .float 0, v8, v9, v10] [.float 0] h Q := ex_nx (show mx_at 121 80 = some (.aload 7, 2) by decide +kernel) rfl
set_option maxRecDepth 20000 in
theorem i121_82 : ex_ X d 121 82 [v0, v1, v2, v3, v4, v5, v6, v7, v8, .int x, v10] [w0] h Q = ex_ X d 121 84 [v0, v1, v2, v3, v4, v5, v6, v7, v8, .int x, v10] [.int x, w0] h Q := ex_nx (show mx_at 121 82 = some (.iload 9, 2) by decide +kernel) rfl
set_option maxRecDepth 20000 in
theorem i121_84 : ex_ X d 121 84 [v0, v1, v2, v3, v4, v5, v6, v7, v8, v9, v10] [.int i, .ref a] h Q = (ik_ h a i = true ∧ ex_ X d 121 85 [v0, v1, v2, v3, v4, v5, v6, v7, v8, v9, v10] [.int (ia_ h a i)] h Q) := R_iald (show mx_at 121 84 = some (.iaload, 1) by decide +kernel)
set_option maxRecDepth 20000 in
theorem i121_84f : ex_ X d 121 84 [v0, v1, v2, v3, v4, v5, v6, v7, v8, v9, v10] [.int i, .float 0] h Q = (mx_in i 5 = true ∧ ex_ X d 121 85 [v0, v1, v2, v3, v4, v5, v6, v7, v8, v9, v10] [.int (mx_cuts i.toNatClampNeg)] h Q) := R_ialdx (show mx_at 121 84 = some (.iaload, 1) by decide +kernel) rfl
set_option maxRecDepth 20000 in
theorem i121_85 : ex_ X d 121 85 [v0, v1, v2, v3, v4, v5, v6, v7, v8, v9, v10] [.int x] h Q = (mx_nl v9 = true ∧ ex_ X d 121 87 [v0, v1, v2, v3, v4, v5, v6, v7, v8, v9, .int x] [] h Q) := mx_t1 (R_st (ok := mx_isI) (n := 10) (w := 2) (show mx_at 121 85 = some (.istore 10, 2) by decide +kernel) (fun _ _ => rfl) (Nat.le_of_ble_eq_true rfl)) rfl
set_option maxRecDepth 20000 in
theorem i121_87 : ex_ X d 121 87 [.ref a, v1, v2, v3, v4, v5, v6, v7, v8, v9, v10] [] h Q = ex_ X d 121 88 [.ref a, v1, v2, v3, v4, v5, v6, v7, v8, v9, v10] [.ref a] h Q := ex_nx (show mx_at 121 87 = some (.aload_n 0, 1) by decide +kernel) rfl
set_option maxRecDepth 20000 in
theorem i121_87f0 : ex_ X d 121 87 [.float 0, v1, v2, v3, v4, v5, v6, v7, v8, v9, v10] [] h Q = ex_ X d 121 88 [.float 0, v1, v2, v3, v4, v5, v6, v7, v8, v9, v10] [.float 0] h Q := ex_nx (show mx_at 121 87 = some (.aload_n 0, 1) by decide +kernel) rfl
set_option maxRecDepth 20000 in
theorem i121_88 : ex_ X d 121 88 [v0, v1, v2, v3, v4, v5, v6, v7, v8, v9, v10] [.ref a] h Q = (gk_ h a 14 [(11, 0)] = true ∧ ex_ X d 121 91 [v0, v1, v2, v3, v4, v5, v6, v7, v8, v9, v10] [gv_ h a 14] h Q) := R_getf (show mx_at 121 88 = some (.getfield 61, 3) by decide +kernel) (mx_fdo ow121 fd110061)
set_option maxRecDepth 20000 in
theorem i121_91 : ex_ X d 121 91 [v0, v1, v2, v3, v4, .int x, v6, v7, v8, v9, v10] [w0] h Q = ex_ X d 121 93 [v0, v1, v2, v3, v4, .int x, v6, v7, v8, v9, v10] [.int x, w0] h Q := ex_nx (show mx_at 121 91 = some (.iload 5, 2) by decide +kernel) rfl
set_option maxRecDepth 20000 in
theorem i121_93 : ex_ X d 121 93 [v0, v1, v2, v3, v4, v5, v6, v7, v8, v9, .int x] [w0, w1] h Q = ex_ X d 121 95 [v0, v1, v2, v3, v4, v5, v6, v7, v8, v9, .int x] [.int x, w0, w1] h Q := ex_nx (show mx_at 121 93 = some (.iload 10, 2) by decide +kernel) rfl
set_option maxRecDepth 20000 in
theorem i121_95 : ex_ X d 121 95 [v0, v1, v2, v3, v4, v5, v6, v7, v8, v9, v10] [.int x, .int i, .ref a] h Q = (ik_ h a i = true ∧ ex_ X d 121 96 [v0, v1, v2, v3, v4, v5, v6, v7, v8, v9, v10] [] (is_ h a i x) Q) := R_iast (show mx_at 121 95 = some (.iastore, 1) by decide +kernel)
set_option maxRecDepth 20000 in
theorem i121_96 : ex_ X d 121 96 [v0, v1, v2, v3, v4, v5, .ref a, v7, v8, v9, v10] [] h Q = ex_ X d 121 98 [v0, v1, v2, v3, v4, v5, .ref a, v7, v8, v9, v10] [.ref a] h Q := ex_nx (show mx_at 121 96 = some (.aload 6, 2) by decide +kernel) rfl
set_option maxRecDepth 20000 in
theorem i121_96f0 : ex_ X d 121 96 [v0, v1, v2, v3, v4, v5, .float 0, v7, v8, v9, v10] [] h Q = ex_ X d 121 98 [v0, v1, v2, v3, v4, v5, .float 0, v7, v8, v9, v10] [.float 0] h Q := ex_nx (show mx_at 121 96 = some (.aload 6, 2) by decide +kernel) rfl
set_option maxRecDepth 20000 in
theorem i121_98 : ex_ X d 121 98 [v0, .ref a, v2, v3, v4, v5, v6, v7, v8, v9, v10] [w0] h Q = ex_ X d 121 99 [v0, .ref a, v2, v3, v4, v5, v6, v7, v8, v9, v10] [.ref a, w0] h Q := ex_nx (show mx_at 121 98 = some (.aload_n 1, 1) by decide +kernel) rfl
set_option maxRecDepth 20000 in
theorem i121_98f0 : ex_ X d 121 98 [v0, .float 0, v2, v3, v4, v5, v6, v7, v8, v9, v10] [w0] h Q = ex_ X d 121 99 [v0, .float 0, v2, v3, v4, v5, v6, v7, v8, v9, v10] [.float 0, w0] h Q := ex_nx (show mx_at 121 98 = some (.aload_n 1, 1) by decide +kernel) rfl
set_option maxRecDepth 20000 in
theorem i121_99 (hc : co_ h a = some 3) : ex_ X (d + 1) 121 99 [v0, v1, v2, v3, v4, v5, v6, v7, v8, v9, v10] [.ref a0, .ref a] h Q = ev_ X d 11 [.ref a, .ref a0] h (fun r h' => ex_ X (d + 1) 121 102 [v0, v1, v2, v3, v4, v5, v6, v7, v8, v9, v10] (r.toList ++ []) h' Q) := R_vir (show mx_at 121 99 = some (.invokevirtual 230, 3) by decide +kernel) (mx_clk ow121 cc11_230) (Nat.le_of_ble_eq_true rfl) rfl rfl hc rfl (Nat.le_of_ble_eq_true rfl) (Nat.le_of_ble_eq_true rfl) (by rw [ml11]; exact Nat.le_of_ble_eq_true rfl)
set_option maxRecDepth 20000 in
theorem i121_102 : ex_ X d 121 102 [v0, v1, v2, v3, v4, v5, .ref a, v7, v8, v9, v10] [] h Q = ex_ X d 121 104 [v0, v1, v2, v3, v4, v5, .ref a, v7, v8, v9, v10] [.ref a] h Q := ex_nx (show mx_at 121 102 = some (.aload 6, 2) by decide +kernel) rfl
set_option maxRecDepth 20000 in
theorem i121_102f0 : ex_ X d 121 102 [v0, v1, v2, v3, v4, v5, .float 0, v7, v8, v9, v10] [] h Q = ex_ X d 121 104 [v0, v1, v2, v3, v4, v5, .float 0, v7, v8, v9, v10] [.float 0] h Q := ex_nx (show mx_at 121 102 = some (.aload 6, 2) by decide +kernel) rfl
set_option maxRecDepth 20000 in
theorem i121_104 : ex_ X d 121 104 [v0, v1, .int x, v3, v4, v5, v6, v7, v8, v9, v10] [w0] h Q = ex_ X d 121 105 [v0, v1, .int x, v3, v4, v5, v6, v7, v8, v9, v10] [.int x, w0] h Q := ex_nx (show mx_at 121 104 = some (.iload_n 2, 1) by decide +kernel) rfl
set_option maxRecDepth 20000 in
theorem i121_105 : ex_ X d 121 105 [v0, v1, v2, v3, v4, v5, v6, v7, v8, v9, .int x] [w0, w1] h Q = ex_ X d 121 107 [v0, v1, v2, v3, v4, v5, v6, v7, v8, v9, .int x] [.int x, w0, w1] h Q := ex_nx (show mx_at 121 105 = some (.iload 10, 2) by decide +kernel) rfl
set_option maxRecDepth 20000 in
theorem i121_107 (hc : co_ h a = some 3) : ex_ X (d + 1) 121 107 [v0, v1, v2, v3, v4, v5, v6, v7, v8, v9, v10] [.int x1, .int x0, .ref a] h Q = ev_ X d 19 [.ref a, .int x0, .int x1] h (fun r h' => ex_ X (d + 1) 121 110 [v0, v1, v2, v3, v4, v5, v6, v7, v8, v9, v10] (r.toList ++ []) h' Q) := R_vir (show mx_at 121 107 = some (.invokevirtual 326, 3) by decide +kernel) (mx_clk ow121 cc11_326) (Nat.le_of_ble_eq_true rfl) rfl rfl hc rfl (Nat.le_of_ble_eq_true rfl) (Nat.le_of_ble_eq_true rfl) (by rw [ml19]; exact Nat.le_of_ble_eq_true rfl)
set_option maxRecDepth 20000 in
theorem i121_110 : ex_ X d 121 110 [v0, v1, v2, v3, v4, v5, .ref a, v7, v8, v9, v10] [] h Q = ex_ X d 121 112 [v0, v1, v2, v3, v4, v5, .ref a, v7, v8, v9, v10] [.ref a] h Q := ex_nx (show mx_at 121 110 = some (.aload 6, 2) by decide +kernel) rfl
set_option maxRecDepth 20000 in
theorem i121_110f0 : ex_ X d 121 110 [v0, v1, v2, v3, v4, v5, .float 0, v7, v8, v9, v10] [] h Q = ex_ X d 121 112 [v0, v1, v2, v3, v4, v5, .float 0, v7, v8, v9, v10] [.float 0] h Q := ex_nx (show mx_at 121 110 = some (.aload 6, 2) by decide +kernel) rfl
set_option maxRecDepth 20000 in
theorem i121_112 : ex_ X d 121 112 [v0, v1, v2, .int x, v4, v5, v6, v7, v8, v9, v10] [w0] h Q = ex_ X d 121 113 [v0, v1, v2, .int x, v4, v5, v6, v7, v8, v9, v10] [.int x, w0] h Q := ex_nx (show mx_at 121 112 = some (.iload_n 3, 1) by decide +kernel) rfl
set_option maxRecDepth 20000 in
theorem i121_113 (hc : co_ h a = some 3) : ex_ X (d + 1) 121 113 [v0, v1, v2, v3, v4, v5, v6, v7, v8, v9, v10] [.int x0, .ref a] h Q = ev_ X d 20 [.ref a, .int x0] h (fun r h' => ex_ X (d + 1) 121 116 [v0, v1, v2, v3, v4, v5, v6, v7, v8, v9, v10] (r.toList ++ []) h' Q) := R_vir (show mx_at 121 113 = some (.invokevirtual 208, 3) by decide +kernel) (mx_clk ow121 cc11_208) (Nat.le_of_ble_eq_true rfl) rfl rfl hc rfl (Nat.le_of_ble_eq_true rfl) (Nat.le_of_ble_eq_true rfl) (by rw [ml20]; exact Nat.le_of_ble_eq_true rfl)
set_option maxRecDepth 20000 in
theorem i121_116 : ex_ X d 121 116 [.ref a, v1, v2, v3, v4, v5, v6, v7, v8, v9, v10] [] h Q = ex_ X d 121 117 [.ref a, v1, v2, v3, v4, v5, v6, v7, v8, v9, v10] [.ref a] h Q := ex_nx (show mx_at 121 116 = some (.aload_n 0, 1) by decide +kernel) rfl
set_option maxRecDepth 20000 in
theorem i121_116f0 : ex_ X d 121 116 [.float 0, v1, v2, v3, v4, v5, v6, v7, v8, v9, v10] [] h Q = ex_ X d 121 117 [.float 0, v1, v2, v3, v4, v5, v6, v7, v8, v9, v10] [.float 0] h Q := ex_nx (show mx_at 121 116 = some (.aload_n 0, 1) by decide +kernel) rfl
set_option maxRecDepth 20000 in
theorem i121_117 : ex_ X d 121 117 [v0, v1, v2, v3, v4, v5, .ref a, v7, v8, v9, v10] [w0] h Q = ex_ X d 121 119 [v0, v1, v2, v3, v4, v5, .ref a, v7, v8, v9, v10] [.ref a, w0] h Q := ex_nx (show mx_at 121 117 = some (.aload 6, 2) by decide +kernel) rfl
set_option maxRecDepth 20000 in
theorem i121_117f0 : ex_ X d 121 117 [v0, v1, v2, v3, v4, v5, .float 0, v7, v8, v9, v10] [w0] h Q = ex_ X d 121 119 [v0, v1, v2, v3, v4, v5, .float 0, v7, v8, v9, v10] [.float 0, w0] h Q := ex_nx (show mx_at 121 117 = some (.aload 6, 2) by decide +kernel) rfl
set_option maxRecDepth 20000 in
theorem i121_119 : ex_ X d 121 119 [v0, v1, .int x, v3, v4, v5, v6, v7, v8, v9, v10] [w0, w1] h Q = ex_ X d 121 120 [v0, v1, .int x, v3, v4, v5, v6, v7, v8, v9, v10] [.int x, w0, w1] h Q := ex_nx (show mx_at 121 119 = some (.iload_n 2, 1) by decide +kernel) rfl
set_option maxRecDepth 20000 in
theorem i121_120 : ex_ X d 121 120 [v0, v1, v2, .int x, v4, v5, v6, v7, v8, v9, v10] [w0, w1, w2] h Q = ex_ X d 121 121 [v0, v1, v2, .int x, v4, v5, v6, v7, v8, v9, v10] [.int x, w0, w1, w2] h Q := ex_nx (show mx_at 121 120 = some (.iload_n 3, 1) by decide +kernel) rfl
set_option maxRecDepth 20000 in
theorem i121_121 : ex_ X d 121 121 [v0, v1, v2, v3, .int x, v5, v6, v7, v8, v9, v10] [w0, w1, w2, w3] h Q = ex_ X d 121 123 [v0, v1, v2, v3, .int x, v5, v6, v7, v8, v9, v10] [.int x, w0, w1, w2, w3] h Q := ex_nx (show mx_at 121 121 = some (.iload 4, 2) by decide +kernel) rfl
set_option maxRecDepth 20000 in
theorem i121_123 : ex_ X d 121 123 [v0, v1, v2, v3, v4, .int x, v6, v7, v8, v9, v10] [w0, w1, w2, w3, w4] h Q = ex_ X d 121 125 [v0, v1, v2, v3, v4, .int x, v6, v7, v8, v9, v10] [.int x, w0, w1, w2, w3, w4] h Q := ex_nx (show mx_at 121 123 = some (.iload 5, 2) by decide +kernel) rfl
set_option maxRecDepth 20000 in
theorem i121_125 : ex_ X d 121 125 [v0, v1, v2, v3, v4, v5, v6, v7, v8, v9, v10] [w0, w1, w2, w3, w4, w5] h Q = ex_ X d 121 126 [v0, v1, v2, v3, v4, v5, v6, v7, v8, v9, v10] [.int 1, w0, w1, w2, w3, w4, w5] h Q := R_iconst (show mx_at 121 125 = some (.iconst 1, 1) by decide +kernel) (by decide)
set_option maxRecDepth 20000 in
theorem i121_126 : ex_ X d 121 126 [v0, v1, v2, v3, v4, v5, v6, v7, v8, v9, v10] [.int y, .int x, w0, w1, w2, w3, w4] h Q = ex_ X d 121 127 [v0, v1, v2, v3, v4, v5, v6, v7, v8, v9, v10] [.int (x + y), w0, w1, w2, w3, w4] h Q := ex_nx (show mx_at 121 126 = some (.iadd, 1) by decide +kernel) rfl
set_option maxRecDepth 20000 in
theorem i121_127 (hc : co_ h a = some 11) : ex_ X (d + 1) 121 127 [v0, v1, v2, v3, v4, v5, v6, v7, v8, v9, v10] [.int x4, .int x3, .int x2, .int x1, .ref a0, .ref a] h Q = ev_ X d 121 [.ref a, .ref a0, .int x1, .int x2, .int x3, .int x4] h (fun r h' => ex_ X (d + 1) 121 130 [v0, v1, v2, v3, v4, v5, v6, v7, v8, v9, v10] (r.toList ++ []) h' Q) := R_vir (show mx_at 121 127 = some (.invokevirtual 241, 3) by decide +kernel) (mx_clk ow121 cc11_241) (Nat.le_of_ble_eq_true rfl) rfl rfl hc rfl (Nat.le_of_ble_eq_true rfl) (Nat.le_of_ble_eq_true rfl) (by rw [ml121]; exact Nat.le_of_ble_eq_true rfl)
set_option maxRecDepth 20000 in
theorem i121_130 : ex_ X d 121 130 [v0, v1, v2, v3, v4, v5, v6, v7, v8, .int x, v10] [] h Q = (mx_nl v8 = true ∧ ex_ X d 121 133 [v0, v1, v2, v3, v4, v5, v6, v7, v8, .int (x + 1), v10] [] h Q) := R_iinc (n := 9) (c := 1) (show mx_at 121 130 = some (.iinc 9 1, 3) by decide +kernel) rfl
set_option maxRecDepth 20000 in
theorem i121_133 : ex_ X d 121 133 [v0, v1, v2, v3, v4, v5, v6, v7, v8, v9, v10] [] h Q = ex_ X d 121 73 [v0, v1, v2, v3, v4, v5, v6, v7, v8, v9, v10] [] h Q := R_to (show mx_at 121 133 = some (.goto (-60), 3) by decide +kernel) rfl rfl
set_option maxRecDepth 20000 in
theorem i121_136 : ex_ X d 121 136 [v0, v1, v2, v3, v4, v5, v6, v7, v8, v9, v10] [] h Q = Q none h := ex_ret (show mx_at 121 136 = some (.return_, 1) by decide +kernel) (mx_retV rt121)
theorem i121_e : ev_ X d 121 [.ref a, .ref a0, .int x1, .int x2, .int x3, .int x4] h Q = ex_ X d 121 0 [.ref a, .ref a0, .int x1, .int x2, .int x3, .int x4, .double 0, .double 0, .double 0, .double 0, .double 0] [] h Q := by rw [ev_, ml121]; rfl
end MXI
