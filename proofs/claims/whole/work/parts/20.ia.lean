section MXI
variable {X : MXX} {d : Nat} {h : MXH} {Q : MXP} {v0 v1 v2 v3 v4 v5 v6 v7 v8 v9 v10 v11 v12 v13 v14 v15 v16 v17 v18 v19 w w0 w1 w2 w3 w4 w5 w6 w7 w8 : Value} {x y z i x0 x1 x2 x3 x4 x5 x6 : Int32} {j0 j1 j2 j3 jx jy : Int64} {a b a0 a1 a2 a3 a4 a5 a6 : Nat}

-- 0 X0_init
set_option maxRecDepth 20000 in
theorem i0_0 : ex_ X d 0 0 [.ref a, v1, v2, v3, v4, v5] [] h Q = ex_ X d 0 1 [.ref a, v1, v2, v3, v4, v5] [.ref a] h Q := ex_nx (show mx_at 0 0 = some (.aload_n 0, 1) by decide +kernel) rfl
set_option maxRecDepth 20000 in
theorem i0_1 : ex_ X d 0 1 [v0, .int x, v2, v3, v4, v5] [w0] h Q = ex_ X d 0 2 [v0, .int x, v2, v3, v4, v5] [.int x, w0] h Q := ex_nx (show mx_at 0 1 = some (.iload_n 1, 1) by decide +kernel) rfl
set_option maxRecDepth 20000 in
theorem i0_2 : ex_ X d 0 2 [v0, v1, .int x, v3, v4, v5] [w0, w1] h Q = ex_ X d 0 3 [v0, v1, .int x, v3, v4, v5] [.int x, w0, w1] h Q := ex_nx (show mx_at 0 2 = some (.iload_n 2, 1) by decide +kernel) rfl
set_option maxRecDepth 20000 in
theorem i0_3 : ex_ X d 0 3 [v0, v1, v2, .int x, v4, v5] [w0, w1, w2] h Q = ex_ X d 0 4 [v0, v1, v2, .int x, v4, v5] [.int x, w0, w1, w2] h Q := ex_nx (show mx_at 0 3 = some (.iload_n 3, 1) by decide +kernel) rfl
set_option maxRecDepth 20000 in
theorem i0_4 : ex_ X d 0 4 [v0, v1, v2, v3, .int x, v5] [w0, w1, w2, w3] h Q = ex_ X d 0 6 [v0, v1, v2, v3, .int x, v5] [.int x, w0, w1, w2, w3] h Q := ex_nx (show mx_at 0 4 = some (.iload 4, 2) by decide +kernel) rfl
set_option maxRecDepth 20000 in
theorem i0_6 : ex_ X d 0 6 [v0, v1, v2, v3, v4, .int x] [w0, w1, w2, w3, w4] h Q = ex_ X d 0 8 [v0, v1, v2, v3, v4, .int x] [.int x, w0, w1, w2, w3, w4] h Q := ex_nx (show mx_at 0 6 = some (.iload 5, 2) by decide +kernel) rfl
set_option maxRecDepth 20000 in
theorem i0_8 : ex_ X (d + 1) 0 8 [v0, v1, v2, v3, v4, v5] [.int x4, .int x3, .int x2, .int x1, .int x0, .ref a] h Q = ev_ X d 40 [.ref a, .int x0, .int x1, .int x2, .int x3, .int x4] h (fun r h' => ex_ X (d + 1) 0 11 [v0, v1, v2, v3, v4, v5] (r.toList ++ []) h' Q) := R_ctor (show mx_at 0 8 = some (.invokespecial 1, 3) by decide +kernel) (mx_clk ow0 cc0_1) (by decide) (Nat.le_of_ble_eq_true rfl) rfl rfl (Nat.le_of_ble_eq_true rfl) ml40 (Nat.le_of_ble_eq_true rfl)
set_option maxRecDepth 20000 in
theorem i0_11 : ex_ X d 0 11 [v0, v1, v2, v3, v4, v5] [] h Q = Q none h := ex_ret (show mx_at 0 11 = some (.return_, 1) by decide +kernel) (mx_retV rt0)
theorem i0_e : ev_ X d 0 [.ref a, .int x0, .int x1, .int x2, .int x3, .int x4] h Q = ex_ X d 0 0 [.ref a, .int x0, .int x1, .int x2, .int x3, .int x4] [] h Q := by rw [ev_, ml0]; rfl
-- 1 X0_wishes
set_option maxRecDepth 20000 in
theorem i1_0 : ex_ X d 1 0 [v0, .int x, v2] [] h Q = ex_ X d 1 1 [v0, .int x, v2] [.int x] h Q := ex_nx (show mx_at 1 0 = some (.iload_n 1, 1) by decide +kernel) rfl
set_option maxRecDepth 20000 in
theorem i1_1 : ex_ X d 1 1 [v0, v1, v2] [.int x] h Q = if 0 ≤ x then ex_ X d 1 10 [v0, v1, v2] [] h Q else ex_ X d 1 4 [v0, v1, v2] [] h Q := (R_br (show mx_at 1 1 = some (.ifCond .ge 9, 3) by decide +kernel) rfl rfl).trans mx_ite
set_option maxRecDepth 20000 in
theorem i1_4 : ex_ X d 1 4 [v0, v1, v2] [] h Q = ex_ X d 1 7 [v0, v1, v2] [.int 900] h Q := R_sipush (show mx_at 1 4 = some (.sipush 900, 3) by decide +kernel) (by decide)
set_option maxRecDepth 20000 in
theorem i1_7 : ex_ X d 1 7 [v0, v1, v2] [w0] h Q = ex_ X d 1 16 [v0, v1, v2] [w0] h Q := R_to (show mx_at 1 7 = some (.goto 9, 3) by decide +kernel) rfl rfl
set_option maxRecDepth 20000 in
theorem i1_10 : ex_ X d 1 10 [v0, .int x, v2] [] h Q = ex_ X d 1 11 [v0, .int x, v2] [.int x] h Q := ex_nx (show mx_at 1 10 = some (.iload_n 1, 1) by decide +kernel) rfl
set_option maxRecDepth 20000 in
theorem i1_11 : ex_ X d 1 11 [.ref a, v1, v2] [w0] h Q = ex_ X d 1 12 [.ref a, v1, v2] [.ref a, w0] h Q := ex_nx (show mx_at 1 11 = some (.aload_n 0, 1) by decide +kernel) rfl
set_option maxRecDepth 20000 in
theorem i1_12 : ex_ X d 1 12 [v0, v1, v2] [.ref a, w0] h Q = (gk_ h a 2 [(0, 280), (4, 280)] = true ∧ ex_ X d 1 15 [v0, v1, v2] [gv_ h a 2, w0] h Q) := R_getf (show mx_at 1 12 = some (.getfield 9, 3) by decide +kernel) (mx_fdo ow1 fd9)
set_option maxRecDepth 20000 in
theorem i1_15 : ex_ X d 1 15 [v0, v1, v2] [.int y, .int x] h Q = ex_ X d 1 16 [v0, v1, v2] [.int (x - y)] h Q := ex_nx (show mx_at 1 15 = some (.isub, 1) by decide +kernel) rfl
set_option maxRecDepth 20000 in
theorem i1_16 : ex_ X d 1 16 [v0, v1, v2] [.int x] h Q = Q (some (.int x)) h := ex_ret (show mx_at 1 16 = some (.ireturn, 1) by decide +kernel) (mx_retI rt1)
theorem i1_e : ev_ X d 1 [.ref a, .int x0, .int x1] h Q = ex_ X d 1 0 [.ref a, .int x0, .int x1] [] h Q := by rw [ev_, ml1]; rfl
-- 2 X0_sells
set_option maxRecDepth 20000 in
theorem i2_0 : ex_ X d 2 0 [v0, v1, .ref a] [] h Q = ex_ X d 2 1 [v0, v1, .ref a] [.ref a] h Q := ex_nx (show mx_at 2 0 = some (.aload_n 2, 1) by decide +kernel) rfl
set_option maxRecDepth 20000 in
theorem i2_1 : ex_ X d 2 1 [v0, v1, v2] [w0] h Q = ex_ X d 2 3 [v0, v1, v2] [.int 20, w0] h Q := R_bipush (show mx_at 2 1 = some (.bipush 20, 2) by decide +kernel) (by decide)
set_option maxRecDepth 20000 in
theorem i2_3 (hc : co_ h a = some 5) : ex_ X (d + 1) 2 3 [v0, v1, v2] [.int x0, .ref a] h Q = ev_ X d 36 [.ref a, .int x0] h (fun r h' => ex_ X (d + 1) 2 6 [v0, v1, v2] (r.toList ++ []) h' Q) := R_vir (show mx_at 2 3 = some (.invokevirtual 13, 3) by decide +kernel) (mx_clk ow2 cc0_13) (Nat.le_of_ble_eq_true rfl) rfl rfl hc rfl (Nat.le_of_ble_eq_true rfl) (Nat.le_of_ble_eq_true rfl) (by rw [ml36]; exact Nat.le_of_ble_eq_true rfl)
set_option maxRecDepth 20000 in
theorem i2_6 : ex_ X d 2 6 [v0, v1, v2] [.int x] h Q = ex_ X d 2 7 [v0, v1, v2] [] h Q := ex_nx (show mx_at 2 6 = some (.pop, 1) by decide +kernel) rfl
set_option maxRecDepth 20000 in
theorem i2_7 : ex_ X d 2 7 [.ref a, v1, v2] [] h Q = ex_ X d 2 8 [.ref a, v1, v2] [.ref a] h Q := ex_nx (show mx_at 2 7 = some (.aload_n 0, 1) by decide +kernel) rfl
set_option maxRecDepth 20000 in
theorem i2_8 : ex_ X d 2 8 [v0, .int x, v2] [w0] h Q = ex_ X d 2 9 [v0, .int x, v2] [.int x, w0] h Q := ex_nx (show mx_at 2 8 = some (.iload_n 1, 1) by decide +kernel) rfl
set_option maxRecDepth 20000 in
theorem i2_9 : ex_ X d 2 9 [v0, v1, .ref a] [w0, w1] h Q = ex_ X d 2 10 [v0, v1, .ref a] [.ref a, w0, w1] h Q := ex_nx (show mx_at 2 9 = some (.aload_n 2, 1) by decide +kernel) rfl
set_option maxRecDepth 20000 in
theorem i2_10_c0 (hc : co_ h a = some 0) : ex_ X (d + 1) 2 10 [v0, v1, v2] [.ref a1, .int x0, .ref a] h Q = ev_ X d 44 [.ref a, .int x0, .ref a1] h (fun r h' => ex_ X (d + 1) 2 13 [v0, v1, v2] (r.toList ++ []) h' Q) := R_sup (show mx_at 2 10 = some (.invokespecial 19, 3) by decide +kernel) (mx_clk ow2 cc0_19) (Nat.le_of_ble_eq_true rfl) rfl rfl hc (Nat.le_of_ble_eq_true rfl) (Nat.le_of_ble_eq_true rfl) (by rw [ml44]; exact Nat.le_of_ble_eq_true rfl)
set_option maxRecDepth 20000 in
theorem i2_10_c1 (hc : co_ h a = some 1) : ex_ X (d + 1) 2 10 [v0, v1, v2] [.ref a1, .int x0, .ref a] h Q = ev_ X d 44 [.ref a, .int x0, .ref a1] h (fun r h' => ex_ X (d + 1) 2 13 [v0, v1, v2] (r.toList ++ []) h' Q) := R_sup (show mx_at 2 10 = some (.invokespecial 19, 3) by decide +kernel) (mx_clk ow2 cc0_19) (Nat.le_of_ble_eq_true rfl) rfl rfl hc (Nat.le_of_ble_eq_true rfl) (Nat.le_of_ble_eq_true rfl) (by rw [ml44]; exact Nat.le_of_ble_eq_true rfl)
set_option maxRecDepth 20000 in
theorem i2_10_c2 (hc : co_ h a = some 2) : ex_ X (d + 1) 2 10 [v0, v1, v2] [.ref a1, .int x0, .ref a] h Q = ev_ X d 44 [.ref a, .int x0, .ref a1] h (fun r h' => ex_ X (d + 1) 2 13 [v0, v1, v2] (r.toList ++ []) h' Q) := R_sup (show mx_at 2 10 = some (.invokespecial 19, 3) by decide +kernel) (mx_clk ow2 cc0_19) (Nat.le_of_ble_eq_true rfl) rfl rfl hc (Nat.le_of_ble_eq_true rfl) (Nat.le_of_ble_eq_true rfl) (by rw [ml44]; exact Nat.le_of_ble_eq_true rfl)
set_option maxRecDepth 20000 in
theorem i2_10_c4 (hc : co_ h a = some 4) : ex_ X (d + 1) 2 10 [v0, v1, v2] [.ref a1, .int x0, .ref a] h Q = ev_ X d 44 [.ref a, .int x0, .ref a1] h (fun r h' => ex_ X (d + 1) 2 13 [v0, v1, v2] (r.toList ++ []) h' Q) := R_sup (show mx_at 2 10 = some (.invokespecial 19, 3) by decide +kernel) (mx_clk ow2 cc0_19) (Nat.le_of_ble_eq_true rfl) rfl rfl hc (Nat.le_of_ble_eq_true rfl) (Nat.le_of_ble_eq_true rfl) (by rw [ml44]; exact Nat.le_of_ble_eq_true rfl)
set_option maxRecDepth 20000 in
theorem i2_10_c6 (hc : co_ h a = some 6) : ex_ X (d + 1) 2 10 [v0, v1, v2] [.ref a1, .int x0, .ref a] h Q = ev_ X d 44 [.ref a, .int x0, .ref a1] h (fun r h' => ex_ X (d + 1) 2 13 [v0, v1, v2] (r.toList ++ []) h' Q) := R_sup (show mx_at 2 10 = some (.invokespecial 19, 3) by decide +kernel) (mx_clk ow2 cc0_19) (Nat.le_of_ble_eq_true rfl) rfl rfl hc (Nat.le_of_ble_eq_true rfl) (Nat.le_of_ble_eq_true rfl) (by rw [ml44]; exact Nat.le_of_ble_eq_true rfl)
set_option maxRecDepth 20000 in
theorem i2_10_c8 (hc : co_ h a = some 8) : ex_ X (d + 1) 2 10 [v0, v1, v2] [.ref a1, .int x0, .ref a] h Q = ev_ X d 44 [.ref a, .int x0, .ref a1] h (fun r h' => ex_ X (d + 1) 2 13 [v0, v1, v2] (r.toList ++ []) h' Q) := R_sup (show mx_at 2 10 = some (.invokespecial 19, 3) by decide +kernel) (mx_clk ow2 cc0_19) (Nat.le_of_ble_eq_true rfl) rfl rfl hc (Nat.le_of_ble_eq_true rfl) (Nat.le_of_ble_eq_true rfl) (by rw [ml44]; exact Nat.le_of_ble_eq_true rfl)
set_option maxRecDepth 20000 in
theorem i2_10_c9 (hc : co_ h a = some 9) : ex_ X (d + 1) 2 10 [v0, v1, v2] [.ref a1, .int x0, .ref a] h Q = ev_ X d 44 [.ref a, .int x0, .ref a1] h (fun r h' => ex_ X (d + 1) 2 13 [v0, v1, v2] (r.toList ++ []) h' Q) := R_sup (show mx_at 2 10 = some (.invokespecial 19, 3) by decide +kernel) (mx_clk ow2 cc0_19) (Nat.le_of_ble_eq_true rfl) rfl rfl hc (Nat.le_of_ble_eq_true rfl) (Nat.le_of_ble_eq_true rfl) (by rw [ml44]; exact Nat.le_of_ble_eq_true rfl)
set_option maxRecDepth 20000 in
theorem i2_13 : ex_ X d 2 13 [.ref a, v1, v2] [w0] h Q = ex_ X d 2 14 [.ref a, v1, v2] [.ref a, w0] h Q := ex_nx (show mx_at 2 13 = some (.aload_n 0, 1) by decide +kernel) rfl
set_option maxRecDepth 20000 in
theorem i2_14 : ex_ X d 2 14 [v0, v1, v2] [w0, w1] h Q = ex_ X d 2 15 [v0, v1, v2] [.int 1, w0, w1] h Q := R_iconst (show mx_at 2 14 = some (.iconst 1, 1) by decide +kernel) (by decide)
set_option maxRecDepth 20000 in
theorem i2_15 : ex_ X d 2 15 [v0, v1, .ref a] [w0, w1, w2] h Q = ex_ X d 2 16 [v0, v1, .ref a] [.ref a, w0, w1, w2] h Q := ex_nx (show mx_at 2 15 = some (.aload_n 2, 1) by decide +kernel) rfl
set_option maxRecDepth 20000 in
theorem i2_16_c0 (hc : co_ h a = some 0) : ex_ X (d + 1) 2 16 [v0, v1, v2] [.ref a1, .int x0, .ref a, w0] h Q = ev_ X d 45 [.ref a, .int x0, .ref a1] h (fun r h' => ex_ X (d + 1) 2 19 [v0, v1, v2] (r.toList ++ [w0]) h' Q) := R_vir (show mx_at 2 16 = some (.invokevirtual 23, 3) by decide +kernel) (mx_clk ow2 cc0_23) (Nat.le_of_ble_eq_true rfl) rfl rfl hc rfl (Nat.le_of_ble_eq_true rfl) (Nat.le_of_ble_eq_true rfl) (by rw [ml45]; exact Nat.le_of_ble_eq_true rfl)
set_option maxRecDepth 20000 in
theorem i2_16_c4 (hc : co_ h a = some 4) : ex_ X (d + 1) 2 16 [v0, v1, v2] [.ref a1, .int x0, .ref a, w0] h Q = ev_ X d 45 [.ref a, .int x0, .ref a1] h (fun r h' => ex_ X (d + 1) 2 19 [v0, v1, v2] (r.toList ++ [w0]) h' Q) := R_vir (show mx_at 2 16 = some (.invokevirtual 23, 3) by decide +kernel) (mx_clk ow2 cc0_23) (Nat.le_of_ble_eq_true rfl) rfl rfl hc rfl (Nat.le_of_ble_eq_true rfl) (Nat.le_of_ble_eq_true rfl) (by rw [ml45]; exact Nat.le_of_ble_eq_true rfl)
set_option maxRecDepth 20000 in
theorem i2_19 : ex_ X d 2 19 [v0, v1, v2] [.int y, .int x] h Q = ex_ X d 2 20 [v0, v1, v2] [.int (x - y)] h Q := ex_nx (show mx_at 2 19 = some (.isub, 1) by decide +kernel) rfl
set_option maxRecDepth 20000 in
theorem i2_20 : ex_ X d 2 20 [v0, v1, v2] [.int x] h Q = Q (some (.int x)) h := ex_ret (show mx_at 2 20 = some (.ireturn, 1) by decide +kernel) (mx_retI rt2)
theorem i2_e : ev_ X d 2 [.ref a, .int x0, .ref a1] h Q = ex_ X d 2 0 [.ref a, .int x0, .ref a1] [] h Q := by rw [ev_, ml2]; rfl
-- 3 X1_init
set_option maxRecDepth 20000 in
theorem i3_0 : ex_ X d 3 0 [.ref a, v1, v2, v3, v4, v5] [] h Q = ex_ X d 3 1 [.ref a, v1, v2, v3, v4, v5] [.ref a] h Q := ex_nx (show mx_at 3 0 = some (.aload_n 0, 1) by decide +kernel) rfl
set_option maxRecDepth 20000 in
theorem i3_1 : ex_ X d 3 1 [v0, .int x, v2, v3, v4, v5] [w0] h Q = ex_ X d 3 2 [v0, .int x, v2, v3, v4, v5] [.int x, w0] h Q := ex_nx (show mx_at 3 1 = some (.iload_n 1, 1) by decide +kernel) rfl
set_option maxRecDepth 20000 in
theorem i3_2 : ex_ X d 3 2 [v0, v1, .int x, v3, v4, v5] [w0, w1] h Q = ex_ X d 3 3 [v0, v1, .int x, v3, v4, v5] [.int x, w0, w1] h Q := ex_nx (show mx_at 3 2 = some (.iload_n 2, 1) by decide +kernel) rfl
set_option maxRecDepth 20000 in
theorem i3_3 : ex_ X d 3 3 [v0, v1, v2, .int x, v4, v5] [w0, w1, w2] h Q = ex_ X d 3 4 [v0, v1, v2, .int x, v4, v5] [.int x, w0, w1, w2] h Q := ex_nx (show mx_at 3 3 = some (.iload_n 3, 1) by decide +kernel) rfl
set_option maxRecDepth 20000 in
theorem i3_4 : ex_ X d 3 4 [v0, v1, v2, v3, .int x, v5] [w0, w1, w2, w3] h Q = ex_ X d 3 6 [v0, v1, v2, v3, .int x, v5] [.int x, w0, w1, w2, w3] h Q := ex_nx (show mx_at 3 4 = some (.iload 4, 2) by decide +kernel) rfl
set_option maxRecDepth 20000 in
theorem i3_6 : ex_ X d 3 6 [v0, v1, v2, v3, v4, .int x] [w0, w1, w2, w3, w4] h Q = ex_ X d 3 8 [v0, v1, v2, v3, v4, .int x] [.int x, w0, w1, w2, w3, w4] h Q := ex_nx (show mx_at 3 6 = some (.iload 5, 2) by decide +kernel) rfl
set_option maxRecDepth 20000 in
theorem i3_8 : ex_ X (d + 1) 3 8 [v0, v1, v2, v3, v4, v5] [.int x4, .int x3, .int x2, .int x1, .int x0, .ref a] h Q = ev_ X d 40 [.ref a, .int x0, .int x1, .int x2, .int x3, .int x4] h (fun r h' => ex_ X (d + 1) 3 11 [v0, v1, v2, v3, v4, v5] (r.toList ++ []) h' Q) := R_ctor (show mx_at 3 8 = some (.invokespecial 1, 3) by decide +kernel) (mx_clk ow3 cc1_1) (by decide) (Nat.le_of_ble_eq_true rfl) rfl rfl (Nat.le_of_ble_eq_true rfl) ml40 (Nat.le_of_ble_eq_true rfl)
set_option maxRecDepth 20000 in
theorem i3_11 : ex_ X d 3 11 [v0, v1, v2, v3, v4, v5] [] h Q = Q none h := ex_ret (show mx_at 3 11 = some (.return_, 1) by decide +kernel) (mx_retV rt3)
theorem i3_e : ev_ X d 3 [.ref a, .int x0, .int x1, .int x2, .int x3, .int x4] h Q = ex_ X d 3 0 [.ref a, .int x0, .int x1, .int x2, .int x3, .int x4] [] h Q := by rw [ev_, ml3]; rfl
-- 4 X1_wishes
set_option maxRecDepth 20000 in
theorem i4_0 : ex_ X d 4 0 [.ref a, v1, v2, v3] [] h Q = ex_ X d 4 1 [.ref a, v1, v2, v3] [.ref a] h Q := ex_nx (show mx_at 4 0 = some (.aload_n 0, 1) by decide +kernel) rfl
set_option maxRecDepth 20000 in
theorem i4_1 : ex_ X d 4 1 [v0, .int x, v2, v3] [w0] h Q = ex_ X d 4 2 [v0, .int x, v2, v3] [.int x, w0] h Q := ex_nx (show mx_at 4 1 = some (.iload_n 1, 1) by decide +kernel) rfl
set_option maxRecDepth 20000 in
theorem i4_2 : ex_ X d 4 2 [v0, v1, .int x, v3] [w0, w1] h Q = ex_ X d 4 3 [v0, v1, .int x, v3] [.int x, w0, w1] h Q := ex_nx (show mx_at 4 2 = some (.iload_n 2, 1) by decide +kernel) rfl
set_option maxRecDepth 20000 in
theorem i4_3_c0 (hc : co_ h a = some 0) : ex_ X (d + 1) 4 3 [v0, v1, v2, v3] [.int x1, .int x0, .ref a] h Q = ev_ X d 41 [.ref a, .int x0, .int x1] h (fun r h' => ex_ X (d + 1) 4 6 [v0, v1, v2, v3] (r.toList ++ []) h' Q) := R_sup (show mx_at 4 3 = some (.invokespecial 7, 3) by decide +kernel) (mx_clk ow4 cc1_7) (Nat.le_of_ble_eq_true rfl) rfl rfl hc (Nat.le_of_ble_eq_true rfl) (Nat.le_of_ble_eq_true rfl) (by rw [ml41]; exact Nat.le_of_ble_eq_true rfl)
set_option maxRecDepth 20000 in
theorem i4_3_c1 (hc : co_ h a = some 1) : ex_ X (d + 1) 4 3 [v0, v1, v2, v3] [.int x1, .int x0, .ref a] h Q = ev_ X d 41 [.ref a, .int x0, .int x1] h (fun r h' => ex_ X (d + 1) 4 6 [v0, v1, v2, v3] (r.toList ++ []) h' Q) := R_sup (show mx_at 4 3 = some (.invokespecial 7, 3) by decide +kernel) (mx_clk ow4 cc1_7) (Nat.le_of_ble_eq_true rfl) rfl rfl hc (Nat.le_of_ble_eq_true rfl) (Nat.le_of_ble_eq_true rfl) (by rw [ml41]; exact Nat.le_of_ble_eq_true rfl)
set_option maxRecDepth 20000 in
theorem i4_3_c2 (hc : co_ h a = some 2) : ex_ X (d + 1) 4 3 [v0, v1, v2, v3] [.int x1, .int x0, .ref a] h Q = ev_ X d 41 [.ref a, .int x0, .int x1] h (fun r h' => ex_ X (d + 1) 4 6 [v0, v1, v2, v3] (r.toList ++ []) h' Q) := R_sup (show mx_at 4 3 = some (.invokespecial 7, 3) by decide +kernel) (mx_clk ow4 cc1_7) (Nat.le_of_ble_eq_true rfl) rfl rfl hc (Nat.le_of_ble_eq_true rfl) (Nat.le_of_ble_eq_true rfl) (by rw [ml41]; exact Nat.le_of_ble_eq_true rfl)
set_option maxRecDepth 20000 in
theorem i4_3_c4 (hc : co_ h a = some 4) : ex_ X (d + 1) 4 3 [v0, v1, v2, v3] [.int x1, .int x0, .ref a] h Q = ev_ X d 41 [.ref a, .int x0, .int x1] h (fun r h' => ex_ X (d + 1) 4 6 [v0, v1, v2, v3] (r.toList ++ []) h' Q) := R_sup (show mx_at 4 3 = some (.invokespecial 7, 3) by decide +kernel) (mx_clk ow4 cc1_7) (Nat.le_of_ble_eq_true rfl) rfl rfl hc (Nat.le_of_ble_eq_true rfl) (Nat.le_of_ble_eq_true rfl) (by rw [ml41]; exact Nat.le_of_ble_eq_true rfl)
set_option maxRecDepth 20000 in
theorem i4_3_c6 (hc : co_ h a = some 6) : ex_ X (d + 1) 4 3 [v0, v1, v2, v3] [.int x1, .int x0, .ref a] h Q = ev_ X d 41 [.ref a, .int x0, .int x1] h (fun r h' => ex_ X (d + 1) 4 6 [v0, v1, v2, v3] (r.toList ++ []) h' Q) := R_sup (show mx_at 4 3 = some (.invokespecial 7, 3) by decide +kernel) (mx_clk ow4 cc1_7) (Nat.le_of_ble_eq_true rfl) rfl rfl hc (Nat.le_of_ble_eq_true rfl) (Nat.le_of_ble_eq_true rfl) (by rw [ml41]; exact Nat.le_of_ble_eq_true rfl)
set_option maxRecDepth 20000 in
theorem i4_3_c8 (hc : co_ h a = some 8) : ex_ X (d + 1) 4 3 [v0, v1, v2, v3] [.int x1, .int x0, .ref a] h Q = ev_ X d 41 [.ref a, .int x0, .int x1] h (fun r h' => ex_ X (d + 1) 4 6 [v0, v1, v2, v3] (r.toList ++ []) h' Q) := R_sup (show mx_at 4 3 = some (.invokespecial 7, 3) by decide +kernel) (mx_clk ow4 cc1_7) (Nat.le_of_ble_eq_true rfl) rfl rfl hc (Nat.le_of_ble_eq_true rfl) (Nat.le_of_ble_eq_true rfl) (by rw [ml41]; exact Nat.le_of_ble_eq_true rfl)
set_option maxRecDepth 20000 in
theorem i4_3_c9 (hc : co_ h a = some 9) : ex_ X (d + 1) 4 3 [v0, v1, v2, v3] [.int x1, .int x0, .ref a] h Q = ev_ X d 41 [.ref a, .int x0, .int x1] h (fun r h' => ex_ X (d + 1) 4 6 [v0, v1, v2, v3] (r.toList ++ []) h' Q) := R_sup (show mx_at 4 3 = some (.invokespecial 7, 3) by decide +kernel) (mx_clk ow4 cc1_7) (Nat.le_of_ble_eq_true rfl) rfl rfl hc (Nat.le_of_ble_eq_true rfl) (Nat.le_of_ble_eq_true rfl) (by rw [ml41]; exact Nat.le_of_ble_eq_true rfl)
set_option maxRecDepth 20000 in
theorem i4_6 : ex_ X d 4 6 [v0, v1, v2, v3] [.int x] h Q = (mx_nl v2 = true ∧ ex_ X d 4 7 [v0, v1, v2, .int x] [] h Q) := mx_t1 (R_st (ok := mx_isI) (n := 3) (w := 1) (show mx_at 4 6 = some (.istore_n 3, 1) by decide +kernel) (fun _ _ => rfl) (Nat.le_of_ble_eq_true rfl)) rfl
set_option maxRecDepth 20000 in
theorem i4_7 : ex_ X d 4 7 [v0, v1, .int x, v3] [] h Q = ex_ X d 4 8 [v0, v1, .int x, v3] [.int x] h Q := ex_nx (show mx_at 4 7 = some (.iload_n 2, 1) by decide +kernel) rfl
set_option maxRecDepth 20000 in
theorem i4_8 : ex_ X d 4 8 [v0, v1, v2, v3] [w0] h Q = ex_ X d 4 10 [v0, v1, v2, v3] [.int 60, w0] h Q := R_bipush (show mx_at 4 8 = some (.bipush 60, 2) by decide +kernel) (by decide)
set_option maxRecDepth 20000 in
theorem i4_10 : ex_ X d 4 10 [v0, v1, v2, v3] [.int y, .int x] h Q = if x < y then ex_ X d 4 22 [v0, v1, v2, v3] [] h Q else ex_ X d 4 13 [v0, v1, v2, v3] [] h Q := (R_br (show mx_at 4 10 = some (.if_icmp .lt 12, 3) by decide +kernel) rfl rfl).trans mx_ite
set_option maxRecDepth 20000 in
theorem i4_13 : ex_ X d 4 13 [v0, v1, v2, .int x] [] h Q = ex_ X d 4 14 [v0, v1, v2, .int x] [.int x] h Q := ex_nx (show mx_at 4 13 = some (.iload_n 3, 1) by decide +kernel) rfl
set_option maxRecDepth 20000 in
theorem i4_14 : ex_ X d 4 14 [.ref a, v1, v2, v3] [w0] h Q = ex_ X d 4 15 [.ref a, v1, v2, v3] [.ref a, w0] h Q := ex_nx (show mx_at 4 14 = some (.aload_n 0, 1) by decide +kernel) rfl
set_option maxRecDepth 20000 in
theorem i4_15 : ex_ X d 4 15 [v0, v1, v2, v3] [.ref a, w0] h Q = (gk_ h a 2 [(1, 282), (9, 282)] = true ∧ ex_ X d 4 18 [v0, v1, v2, v3] [gv_ h a 2, w0] h Q) := R_getf (show mx_at 4 15 = some (.getfield 13, 3) by decide +kernel) (mx_fdo ow4 fd10013)
set_option maxRecDepth 20000 in
theorem i4_18 : ex_ X d 4 18 [v0, v1, v2, v3] [.int y, .int x] h Q = ex_ X d 4 19 [v0, v1, v2, v3] [.int (x - y)] h Q := ex_nx (show mx_at 4 18 = some (.isub, 1) by decide +kernel) rfl
set_option maxRecDepth 20000 in
theorem i4_19 : ex_ X d 4 19 [v0, v1, v2, v3] [w0] h Q = ex_ X d 4 23 [v0, v1, v2, v3] [w0] h Q := R_to (show mx_at 4 19 = some (.goto 4, 3) by decide +kernel) rfl rfl
set_option maxRecDepth 20000 in
theorem i4_22 : ex_ X d 4 22 [v0, v1, v2, .int x] [] h Q = ex_ X d 4 23 [v0, v1, v2, .int x] [.int x] h Q := ex_nx (show mx_at 4 22 = some (.iload_n 3, 1) by decide +kernel) rfl
set_option maxRecDepth 20000 in
theorem i4_23 : ex_ X d 4 23 [v0, v1, v2, v3] [.int x] h Q = Q (some (.int x)) h := ex_ret (show mx_at 4 23 = some (.ireturn, 1) by decide +kernel) (mx_retI rt4)
theorem i4_e : ev_ X d 4 [.ref a, .int x0, .int x1] h Q = ex_ X d 4 0 [.ref a, .int x0, .int x1, .double 0] [] h Q := by rw [ev_, ml4]; rfl
-- 5 X1_tells
set_option maxRecDepth 20000 in
theorem i5_0 : ex_ X d 5 0 [v0, v1, .ref a] [] h Q = ex_ X d 5 1 [v0, v1, .ref a] [.ref a] h Q := ex_nx (show mx_at 5 0 = some (.aload_n 2, 1) by decide +kernel) rfl
set_option maxRecDepth 20000 in
theorem i5_1 : ex_ X d 5 1 [v0, v1, v2] [w0] h Q = ex_ X d 5 3 [v0, v1, v2] [.int 50, w0] h Q := R_bipush (show mx_at 5 1 = some (.bipush 50, 2) by decide +kernel) (by decide)
set_option maxRecDepth 20000 in
theorem i5_3 (hc : co_ h a = some 5) : ex_ X (d + 1) 5 3 [v0, v1, v2] [.int x0, .ref a] h Q = ev_ X d 36 [.ref a, .int x0] h (fun r h' => ex_ X (d + 1) 5 6 [v0, v1, v2] (r.toList ++ []) h' Q) := R_vir (show mx_at 5 3 = some (.invokevirtual 17, 3) by decide +kernel) (mx_clk ow5 cc1_17) (Nat.le_of_ble_eq_true rfl) rfl rfl hc rfl (Nat.le_of_ble_eq_true rfl) (Nat.le_of_ble_eq_true rfl) (by rw [ml36]; exact Nat.le_of_ble_eq_true rfl)
set_option maxRecDepth 20000 in
theorem i5_6 : ex_ X d 5 6 [v0, v1, v2] [.int x] h Q = ex_ X d 5 7 [v0, v1, v2] [] h Q := ex_nx (show mx_at 5 6 = some (.pop, 1) by decide +kernel) rfl
set_option maxRecDepth 20000 in
theorem i5_7 : ex_ X d 5 7 [.ref a, v1, v2] [] h Q = ex_ X d 5 8 [.ref a, v1, v2] [.ref a] h Q := ex_nx (show mx_at 5 7 = some (.aload_n 0, 1) by decide +kernel) rfl
set_option maxRecDepth 20000 in
theorem i5_8 : ex_ X d 5 8 [v0, .int x, v2] [w0] h Q = ex_ X d 5 9 [v0, .int x, v2] [.int x, w0] h Q := ex_nx (show mx_at 5 8 = some (.iload_n 1, 1) by decide +kernel) rfl
set_option maxRecDepth 20000 in
theorem i5_9 : ex_ X d 5 9 [v0, v1, .ref a] [w0, w1] h Q = ex_ X d 5 10 [v0, v1, .ref a] [.ref a, w0, w1] h Q := ex_nx (show mx_at 5 9 = some (.aload_n 2, 1) by decide +kernel) rfl
set_option maxRecDepth 20000 in
theorem i5_10_c0 (hc : co_ h a = some 0) : ex_ X (d + 1) 5 10 [v0, v1, v2] [.ref a1, .int x0, .ref a] h Q = ev_ X d 46 [.ref a, .int x0, .ref a1] h (fun r h' => ex_ X (d + 1) 5 13 [v0, v1, v2] (r.toList ++ []) h' Q) := R_sup (show mx_at 5 10 = some (.invokespecial 23, 3) by decide +kernel) (mx_clk ow5 cc1_23) (Nat.le_of_ble_eq_true rfl) rfl rfl hc (Nat.le_of_ble_eq_true rfl) (Nat.le_of_ble_eq_true rfl) (by rw [ml46]; exact Nat.le_of_ble_eq_true rfl)
set_option maxRecDepth 20000 in
theorem i5_10_c1 (hc : co_ h a = some 1) : ex_ X (d + 1) 5 10 [v0, v1, v2] [.ref a1, .int x0, .ref a] h Q = ev_ X d 46 [.ref a, .int x0, .ref a1] h (fun r h' => ex_ X (d + 1) 5 13 [v0, v1, v2] (r.toList ++ []) h' Q) := R_sup (show mx_at 5 10 = some (.invokespecial 23, 3) by decide +kernel) (mx_clk ow5 cc1_23) (Nat.le_of_ble_eq_true rfl) rfl rfl hc (Nat.le_of_ble_eq_true rfl) (Nat.le_of_ble_eq_true rfl) (by rw [ml46]; exact Nat.le_of_ble_eq_true rfl)
set_option maxRecDepth 20000 in
theorem i5_10_c2 (hc : co_ h a = some 2) : ex_ X (d + 1) 5 10 [v0, v1, v2] [.ref a1, .int x0, .ref a] h Q = ev_ X d 46 [.ref a, .int x0, .ref a1] h (fun r h' => ex_ X (d + 1) 5 13 [v0, v1, v2] (r.toList ++ []) h' Q) := R_sup (show mx_at 5 10 = some (.invokespecial 23, 3) by decide +kernel) (mx_clk ow5 cc1_23) (Nat.le_of_ble_eq_true rfl) rfl rfl hc (Nat.le_of_ble_eq_true rfl) (Nat.le_of_ble_eq_true rfl) (by rw [ml46]; exact Nat.le_of_ble_eq_true rfl)
set_option maxRecDepth 20000 in
theorem i5_10_c4 (hc : co_ h a = some 4) : ex_ X (d + 1) 5 10 [v0, v1, v2] [.ref a1, .int x0, .ref a] h Q = ev_ X d 46 [.ref a, .int x0, .ref a1] h (fun r h' => ex_ X (d + 1) 5 13 [v0, v1, v2] (r.toList ++ []) h' Q) := R_sup (show mx_at 5 10 = some (.invokespecial 23, 3) by decide +kernel) (mx_clk ow5 cc1_23) (Nat.le_of_ble_eq_true rfl) rfl rfl hc (Nat.le_of_ble_eq_true rfl) (Nat.le_of_ble_eq_true rfl) (by rw [ml46]; exact Nat.le_of_ble_eq_true rfl)
set_option maxRecDepth 20000 in
theorem i5_10_c6 (hc : co_ h a = some 6) : ex_ X (d + 1) 5 10 [v0, v1, v2] [.ref a1, .int x0, .ref a] h Q = ev_ X d 46 [.ref a, .int x0, .ref a1] h (fun r h' => ex_ X (d + 1) 5 13 [v0, v1, v2] (r.toList ++ []) h' Q) := R_sup (show mx_at 5 10 = some (.invokespecial 23, 3) by decide +kernel) (mx_clk ow5 cc1_23) (Nat.le_of_ble_eq_true rfl) rfl rfl hc (Nat.le_of_ble_eq_true rfl) (Nat.le_of_ble_eq_true rfl) (by rw [ml46]; exact Nat.le_of_ble_eq_true rfl)
set_option maxRecDepth 20000 in
theorem i5_10_c8 (hc : co_ h a = some 8) : ex_ X (d + 1) 5 10 [v0, v1, v2] [.ref a1, .int x0, .ref a] h Q = ev_ X d 46 [.ref a, .int x0, .ref a1] h (fun r h' => ex_ X (d + 1) 5 13 [v0, v1, v2] (r.toList ++ []) h' Q) := R_sup (show mx_at 5 10 = some (.invokespecial 23, 3) by decide +kernel) (mx_clk ow5 cc1_23) (Nat.le_of_ble_eq_true rfl) rfl rfl hc (Nat.le_of_ble_eq_true rfl) (Nat.le_of_ble_eq_true rfl) (by rw [ml46]; exact Nat.le_of_ble_eq_true rfl)
set_option maxRecDepth 20000 in
theorem i5_10_c9 (hc : co_ h a = some 9) : ex_ X (d + 1) 5 10 [v0, v1, v2] [.ref a1, .int x0, .ref a] h Q = ev_ X d 46 [.ref a, .int x0, .ref a1] h (fun r h' => ex_ X (d + 1) 5 13 [v0, v1, v2] (r.toList ++ []) h' Q) := R_sup (show mx_at 5 10 = some (.invokespecial 23, 3) by decide +kernel) (mx_clk ow5 cc1_23) (Nat.le_of_ble_eq_true rfl) rfl rfl hc (Nat.le_of_ble_eq_true rfl) (Nat.le_of_ble_eq_true rfl) (by rw [ml46]; exact Nat.le_of_ble_eq_true rfl)
set_option maxRecDepth 20000 in
theorem i5_13 : ex_ X d 5 13 [.ref a, v1, v2] [w0] h Q = ex_ X d 5 14 [.ref a, v1, v2] [.ref a, w0] h Q := ex_nx (show mx_at 5 13 = some (.aload_n 0, 1) by decide +kernel) rfl
set_option maxRecDepth 20000 in
theorem i5_14 : ex_ X d 5 14 [v0, v1, v2] [w0, w1] h Q = ex_ X d 5 15 [v0, v1, v2] [.int 2, w0, w1] h Q := R_iconst (show mx_at 5 14 = some (.iconst 2, 1) by decide +kernel) (by decide)
set_option maxRecDepth 20000 in
theorem i5_15 : ex_ X d 5 15 [v0, v1, .ref a] [w0, w1, w2] h Q = ex_ X d 5 16 [v0, v1, .ref a] [.ref a, w0, w1, w2] h Q := ex_nx (show mx_at 5 15 = some (.aload_n 2, 1) by decide +kernel) rfl
set_option maxRecDepth 20000 in
theorem i5_16_c1 (hc : co_ h a = some 1) : ex_ X (d + 1) 5 16 [v0, v1, v2] [.ref a1, .int x0, .ref a, w0] h Q = ev_ X d 43 [.ref a, .int x0, .ref a1] h (fun r h' => ex_ X (d + 1) 5 19 [v0, v1, v2] (r.toList ++ [w0]) h' Q) := R_vir (show mx_at 5 16 = some (.invokevirtual 27, 3) by decide +kernel) (mx_clk ow5 cc1_27) (Nat.le_of_ble_eq_true rfl) rfl rfl hc rfl (Nat.le_of_ble_eq_true rfl) (Nat.le_of_ble_eq_true rfl) (by rw [ml43]; exact Nat.le_of_ble_eq_true rfl)
set_option maxRecDepth 20000 in
theorem i5_16_c9 (hc : co_ h a = some 9) : ex_ X (d + 1) 5 16 [v0, v1, v2] [.ref a1, .int x0, .ref a, w0] h Q = ev_ X d 43 [.ref a, .int x0, .ref a1] h (fun r h' => ex_ X (d + 1) 5 19 [v0, v1, v2] (r.toList ++ [w0]) h' Q) := R_vir (show mx_at 5 16 = some (.invokevirtual 27, 3) by decide +kernel) (mx_clk ow5 cc1_27) (Nat.le_of_ble_eq_true rfl) rfl rfl hc rfl (Nat.le_of_ble_eq_true rfl) (Nat.le_of_ble_eq_true rfl) (by rw [ml43]; exact Nat.le_of_ble_eq_true rfl)
set_option maxRecDepth 20000 in
theorem i5_19 : ex_ X d 5 19 [v0, v1, v2] [.int y, .int x] h Q = ex_ X d 5 20 [v0, v1, v2] [.int (x - y)] h Q := ex_nx (show mx_at 5 19 = some (.isub, 1) by decide +kernel) rfl
set_option maxRecDepth 20000 in
theorem i5_20 : ex_ X d 5 20 [v0, v1, v2] [.int x] h Q = Q (some (.int x)) h := ex_ret (show mx_at 5 20 = some (.ireturn, 1) by decide +kernel) (mx_retI rt5)
theorem i5_e : ev_ X d 5 [.ref a, .int x0, .ref a1] h Q = ex_ X d 5 0 [.ref a, .int x0, .ref a1] [] h Q := by rw [ev_, ml5]; rfl
-- 6 X2_init
set_option maxRecDepth 20000 in
theorem i6_0 : ex_ X d 6 0 [.ref a, v1, v2, v3, v4, v5] [] h Q = ex_ X d 6 1 [.ref a, v1, v2, v3, v4, v5] [.ref a] h Q := ex_nx (show mx_at 6 0 = some (.aload_n 0, 1) by decide +kernel) rfl
set_option maxRecDepth 20000 in
theorem i6_1 : ex_ X d 6 1 [v0, .int x, v2, v3, v4, v5] [w0] h Q = ex_ X d 6 2 [v0, .int x, v2, v3, v4, v5] [.int x, w0] h Q := ex_nx (show mx_at 6 1 = some (.iload_n 1, 1) by decide +kernel) rfl
set_option maxRecDepth 20000 in
theorem i6_2 : ex_ X d 6 2 [v0, v1, .int x, v3, v4, v5] [w0, w1] h Q = ex_ X d 6 3 [v0, v1, .int x, v3, v4, v5] [.int x, w0, w1] h Q := ex_nx (show mx_at 6 2 = some (.iload_n 2, 1) by decide +kernel) rfl
set_option maxRecDepth 20000 in
theorem i6_3 : ex_ X d 6 3 [v0, v1, v2, .int x, v4, v5] [w0, w1, w2] h Q = ex_ X d 6 4 [v0, v1, v2, .int x, v4, v5] [.int x, w0, w1, w2] h Q := ex_nx (show mx_at 6 3 = some (.iload_n 3, 1) by decide +kernel) rfl
set_option maxRecDepth 20000 in
theorem i6_4 : ex_ X d 6 4 [v0, v1, v2, v3, .int x, v5] [w0, w1, w2, w3] h Q = ex_ X d 6 6 [v0, v1, v2, v3, .int x, v5] [.int x, w0, w1, w2, w3] h Q := ex_nx (show mx_at 6 4 = some (.iload 4, 2) by decide +kernel) rfl
set_option maxRecDepth 20000 in
theorem i6_6 : ex_ X d 6 6 [v0, v1, v2, v3, v4, .int x] [w0, w1, w2, w3, w4] h Q = ex_ X d 6 8 [v0, v1, v2, v3, v4, .int x] [.int x, w0, w1, w2, w3, w4] h Q := ex_nx (show mx_at 6 6 = some (.iload 5, 2) by decide +kernel) rfl
set_option maxRecDepth 20000 in
theorem i6_8 : ex_ X (d + 1) 6 8 [v0, v1, v2, v3, v4, v5] [.int x4, .int x3, .int x2, .int x1, .int x0, .ref a] h Q = ev_ X d 52 [.ref a, .int x0, .int x1, .int x2, .int x3, .int x4] h (fun r h' => ex_ X (d + 1) 6 11 [v0, v1, v2, v3, v4, v5] (r.toList ++ []) h' Q) := R_ctor (show mx_at 6 8 = some (.invokespecial 1, 3) by decide +kernel) (mx_clk ow6 cc2_1) (by decide) (Nat.le_of_ble_eq_true rfl) rfl rfl (Nat.le_of_ble_eq_true rfl) ml52 (Nat.le_of_ble_eq_true rfl)
set_option maxRecDepth 20000 in
theorem i6_11 : ex_ X d 6 11 [v0, v1, v2, v3, v4, v5] [] h Q = Q none h := ex_ret (show mx_at 6 11 = some (.return_, 1) by decide +kernel) (mx_retV rt6)
theorem i6_e : ev_ X d 6 [.ref a, .int x0, .int x1, .int x2, .int x3, .int x4] h Q = ex_ X d 6 0 [.ref a, .int x0, .int x1, .int x2, .int x3, .int x4] [] h Q := by rw [ev_, ml6]; rfl
-- 7 X2_wishes
set_option maxRecDepth 20000 in
theorem i7_0 : ex_ X d 7 0 [.ref a, v1, v2, v3] [] h Q = ex_ X d 7 1 [.ref a, v1, v2, v3] [.ref a] h Q := ex_nx (show mx_at 7 0 = some (.aload_n 0, 1) by decide +kernel) rfl
set_option maxRecDepth 20000 in
theorem i7_1 : ex_ X d 7 1 [v0, .int x, v2, v3] [w0] h Q = ex_ X d 7 2 [v0, .int x, v2, v3] [.int x, w0] h Q := ex_nx (show mx_at 7 1 = some (.iload_n 1, 1) by decide +kernel) rfl
set_option maxRecDepth 20000 in
theorem i7_2 : ex_ X d 7 2 [v0, v1, .int x, v3] [w0, w1] h Q = ex_ X d 7 3 [v0, v1, .int x, v3] [.int x, w0, w1] h Q := ex_nx (show mx_at 7 2 = some (.iload_n 2, 1) by decide +kernel) rfl
set_option maxRecDepth 20000 in
theorem i7_3_c0 (hc : co_ h a = some 0) : ex_ X (d + 1) 7 3 [v0, v1, v2, v3] [.int x1, .int x0, .ref a] h Q = ev_ X d 53 [.ref a, .int x0, .int x1] h (fun r h' => ex_ X (d + 1) 7 6 [v0, v1, v2, v3] (r.toList ++ []) h' Q) := R_sup (show mx_at 7 3 = some (.invokespecial 7, 3) by decide +kernel) (mx_clk ow7 cc2_7) (Nat.le_of_ble_eq_true rfl) rfl rfl hc (Nat.le_of_ble_eq_true rfl) (Nat.le_of_ble_eq_true rfl) (by rw [ml53]; exact Nat.le_of_ble_eq_true rfl)
set_option maxRecDepth 20000 in
theorem i7_3_c1 (hc : co_ h a = some 1) : ex_ X (d + 1) 7 3 [v0, v1, v2, v3] [.int x1, .int x0, .ref a] h Q = ev_ X d 53 [.ref a, .int x0, .int x1] h (fun r h' => ex_ X (d + 1) 7 6 [v0, v1, v2, v3] (r.toList ++ []) h' Q) := R_sup (show mx_at 7 3 = some (.invokespecial 7, 3) by decide +kernel) (mx_clk ow7 cc2_7) (Nat.le_of_ble_eq_true rfl) rfl rfl hc (Nat.le_of_ble_eq_true rfl) (Nat.le_of_ble_eq_true rfl) (by rw [ml53]; exact Nat.le_of_ble_eq_true rfl)
set_option maxRecDepth 20000 in
theorem i7_3_c2 (hc : co_ h a = some 2) : ex_ X (d + 1) 7 3 [v0, v1, v2, v3] [.int x1, .int x0, .ref a] h Q = ev_ X d 53 [.ref a, .int x0, .int x1] h (fun r h' => ex_ X (d + 1) 7 6 [v0, v1, v2, v3] (r.toList ++ []) h' Q) := R_sup (show mx_at 7 3 = some (.invokespecial 7, 3) by decide +kernel) (mx_clk ow7 cc2_7) (Nat.le_of_ble_eq_true rfl) rfl rfl hc (Nat.le_of_ble_eq_true rfl) (Nat.le_of_ble_eq_true rfl) (by rw [ml53]; exact Nat.le_of_ble_eq_true rfl)
set_option maxRecDepth 20000 in
theorem i7_3_c4 (hc : co_ h a = some 4) : ex_ X (d + 1) 7 3 [v0, v1, v2, v3] [.int x1, .int x0, .ref a] h Q = ev_ X d 53 [.ref a, .int x0, .int x1] h (fun r h' => ex_ X (d + 1) 7 6 [v0, v1, v2, v3] (r.toList ++ []) h' Q) := R_sup (show mx_at 7 3 = some (.invokespecial 7, 3) by decide +kernel) (mx_clk ow7 cc2_7) (Nat.le_of_ble_eq_true rfl) rfl rfl hc (Nat.le_of_ble_eq_true rfl) (Nat.le_of_ble_eq_true rfl) (by rw [ml53]; exact Nat.le_of_ble_eq_true rfl)
set_option maxRecDepth 20000 in
theorem i7_3_c6 (hc : co_ h a = some 6) : ex_ X (d + 1) 7 3 [v0, v1, v2, v3] [.int x1, .int x0, .ref a] h Q = ev_ X d 53 [.ref a, .int x0, .int x1] h (fun r h' => ex_ X (d + 1) 7 6 [v0, v1, v2, v3] (r.toList ++ []) h' Q) := R_sup (show mx_at 7 3 = some (.invokespecial 7, 3) by decide +kernel) (mx_clk ow7 cc2_7) (Nat.le_of_ble_eq_true rfl) rfl rfl hc (Nat.le_of_ble_eq_true rfl) (Nat.le_of_ble_eq_true rfl) (by rw [ml53]; exact Nat.le_of_ble_eq_true rfl)
set_option maxRecDepth 20000 in
theorem i7_3_c8 (hc : co_ h a = some 8) : ex_ X (d + 1) 7 3 [v0, v1, v2, v3] [.int x1, .int x0, .ref a] h Q = ev_ X d 53 [.ref a, .int x0, .int x1] h (fun r h' => ex_ X (d + 1) 7 6 [v0, v1, v2, v3] (r.toList ++ []) h' Q) := R_sup (show mx_at 7 3 = some (.invokespecial 7, 3) by decide +kernel) (mx_clk ow7 cc2_7) (Nat.le_of_ble_eq_true rfl) rfl rfl hc (Nat.le_of_ble_eq_true rfl) (Nat.le_of_ble_eq_true rfl) (by rw [ml53]; exact Nat.le_of_ble_eq_true rfl)
set_option maxRecDepth 20000 in
theorem i7_3_c9 (hc : co_ h a = some 9) : ex_ X (d + 1) 7 3 [v0, v1, v2, v3] [.int x1, .int x0, .ref a] h Q = ev_ X d 53 [.ref a, .int x0, .int x1] h (fun r h' => ex_ X (d + 1) 7 6 [v0, v1, v2, v3] (r.toList ++ []) h' Q) := R_sup (show mx_at 7 3 = some (.invokespecial 7, 3) by decide +kernel) (mx_clk ow7 cc2_7) (Nat.le_of_ble_eq_true rfl) rfl rfl hc (Nat.le_of_ble_eq_true rfl) (Nat.le_of_ble_eq_true rfl) (by rw [ml53]; exact Nat.le_of_ble_eq_true rfl)
set_option maxRecDepth 20000 in
theorem i7_6 : ex_ X d 7 6 [v0, v1, v2, v3] [.int x] h Q = (mx_nl v2 = true ∧ ex_ X d 7 7 [v0, v1, v2, .int x] [] h Q) := mx_t1 (R_st (ok := mx_isI) (n := 3) (w := 1) (show mx_at 7 6 = some (.istore_n 3, 1) by decide +kernel) (fun _ _ => rfl) (Nat.le_of_ble_eq_true rfl)) rfl
set_option maxRecDepth 20000 in
theorem i7_7 : ex_ X d 7 7 [v0, v1, .int x, v3] [] h Q = ex_ X d 7 8 [v0, v1, .int x, v3] [.int x] h Q := ex_nx (show mx_at 7 7 = some (.iload_n 2, 1) by decide +kernel) rfl
set_option maxRecDepth 20000 in
theorem i7_8 : ex_ X d 7 8 [v0, v1, v2, v3] [w0] h Q = ex_ X d 7 10 [v0, v1, v2, v3] [.int 20, w0] h Q := R_bipush (show mx_at 7 8 = some (.bipush 20, 2) by decide +kernel) (by decide)
set_option maxRecDepth 20000 in
theorem i7_10 : ex_ X d 7 10 [v0, v1, v2, v3] [.int y, .int x] h Q = if x < y then ex_ X d 7 22 [v0, v1, v2, v3] [] h Q else ex_ X d 7 13 [v0, v1, v2, v3] [] h Q := (R_br (show mx_at 7 10 = some (.if_icmp .lt 12, 3) by decide +kernel) rfl rfl).trans mx_ite
set_option maxRecDepth 20000 in
theorem i7_13 : ex_ X d 7 13 [v0, v1, v2, .int x] [] h Q = ex_ X d 7 14 [v0, v1, v2, .int x] [.int x] h Q := ex_nx (show mx_at 7 13 = some (.iload_n 3, 1) by decide +kernel) rfl
set_option maxRecDepth 20000 in
theorem i7_14 : ex_ X d 7 14 [.ref a, v1, v2, v3] [w0] h Q = ex_ X d 7 15 [.ref a, v1, v2, v3] [.ref a, w0] h Q := ex_nx (show mx_at 7 14 = some (.aload_n 0, 1) by decide +kernel) rfl
set_option maxRecDepth 20000 in
theorem i7_15 : ex_ X d 7 15 [v0, v1, v2, v3] [.ref a, w0] h Q = (gk_ h a 2 [(2, 284)] = true ∧ ex_ X d 7 18 [v0, v1, v2, v3] [gv_ h a 2, w0] h Q) := R_getf (show mx_at 7 15 = some (.getfield 13, 3) by decide +kernel) (mx_fdo ow7 fd20013)
set_option maxRecDepth 20000 in
theorem i7_18 : ex_ X d 7 18 [v0, v1, v2, v3] [.int y, .int x] h Q = ex_ X d 7 19 [v0, v1, v2, v3] [.int (x - y)] h Q := ex_nx (show mx_at 7 18 = some (.isub, 1) by decide +kernel) rfl
set_option maxRecDepth 20000 in
theorem i7_19 : ex_ X d 7 19 [v0, v1, v2, v3] [w0] h Q = ex_ X d 7 23 [v0, v1, v2, v3] [w0] h Q := R_to (show mx_at 7 19 = some (.goto 4, 3) by decide +kernel) rfl rfl
set_option maxRecDepth 20000 in
theorem i7_22 : ex_ X d 7 22 [v0, v1, v2, .int x] [] h Q = ex_ X d 7 23 [v0, v1, v2, .int x] [.int x] h Q := ex_nx (show mx_at 7 22 = some (.iload_n 3, 1) by decide +kernel) rfl
set_option maxRecDepth 20000 in
theorem i7_23 : ex_ X d 7 23 [v0, v1, v2, v3] [.int x] h Q = Q (some (.int x)) h := ex_ret (show mx_at 7 23 = some (.ireturn, 1) by decide +kernel) (mx_retI rt7)
theorem i7_e : ev_ X d 7 [.ref a, .int x0, .int x1] h Q = ex_ X d 7 0 [.ref a, .int x0, .int x1, .double 0] [] h Q := by rw [ev_, ml7]; rfl
-- 8 X2_holds
set_option maxRecDepth 20000 in
theorem i8_0 : ex_ X d 8 0 [v0, v1, .ref a] [] h Q = ex_ X d 8 1 [v0, v1, .ref a] [.ref a] h Q := ex_nx (show mx_at 8 0 = some (.aload_n 2, 1) by decide +kernel) rfl
set_option maxRecDepth 20000 in
theorem i8_1 : ex_ X d 8 1 [v0, v1, v2] [w0] h Q = ex_ X d 8 3 [v0, v1, v2] [.int 40, w0] h Q := R_bipush (show mx_at 8 1 = some (.bipush 40, 2) by decide +kernel) (by decide)
set_option maxRecDepth 20000 in
theorem i8_3 (hc : co_ h a = some 5) : ex_ X (d + 1) 8 3 [v0, v1, v2] [.int x0, .ref a] h Q = ev_ X d 36 [.ref a, .int x0] h (fun r h' => ex_ X (d + 1) 8 6 [v0, v1, v2] (r.toList ++ []) h' Q) := R_vir (show mx_at 8 3 = some (.invokevirtual 17, 3) by decide +kernel) (mx_clk ow8 cc2_17) (Nat.le_of_ble_eq_true rfl) rfl rfl hc rfl (Nat.le_of_ble_eq_true rfl) (Nat.le_of_ble_eq_true rfl) (by rw [ml36]; exact Nat.le_of_ble_eq_true rfl)
set_option maxRecDepth 20000 in
theorem i8_6 : ex_ X d 8 6 [v0, v1, v2] [.int x] h Q = ex_ X d 8 7 [v0, v1, v2] [] h Q := ex_nx (show mx_at 8 6 = some (.pop, 1) by decide +kernel) rfl
set_option maxRecDepth 20000 in
theorem i8_7 : ex_ X d 8 7 [.ref a, v1, v2] [] h Q = ex_ X d 8 8 [.ref a, v1, v2] [.ref a] h Q := ex_nx (show mx_at 8 7 = some (.aload_n 0, 1) by decide +kernel) rfl
set_option maxRecDepth 20000 in
theorem i8_8 : ex_ X d 8 8 [v0, .int x, v2] [w0] h Q = ex_ X d 8 9 [v0, .int x, v2] [.int x, w0] h Q := ex_nx (show mx_at 8 8 = some (.iload_n 1, 1) by decide +kernel) rfl
set_option maxRecDepth 20000 in
theorem i8_9 : ex_ X d 8 9 [v0, v1, .ref a] [w0, w1] h Q = ex_ X d 8 10 [v0, v1, .ref a] [.ref a, w0, w1] h Q := ex_nx (show mx_at 8 9 = some (.aload_n 2, 1) by decide +kernel) rfl
set_option maxRecDepth 20000 in
theorem i8_10_c0 (hc : co_ h a = some 0) : ex_ X (d + 1) 8 10 [v0, v1, v2] [.ref a1, .int x0, .ref a] h Q = ev_ X d 45 [.ref a, .int x0, .ref a1] h (fun r h' => ex_ X (d + 1) 8 13 [v0, v1, v2] (r.toList ++ []) h' Q) := R_sup (show mx_at 8 10 = some (.invokespecial 23, 3) by decide +kernel) (mx_clk ow8 cc2_23) (Nat.le_of_ble_eq_true rfl) rfl rfl hc (Nat.le_of_ble_eq_true rfl) (Nat.le_of_ble_eq_true rfl) (by rw [ml45]; exact Nat.le_of_ble_eq_true rfl)
set_option maxRecDepth 20000 in
theorem i8_10_c1 (hc : co_ h a = some 1) : ex_ X (d + 1) 8 10 [v0, v1, v2] [.ref a1, .int x0, .ref a] h Q = ev_ X d 45 [.ref a, .int x0, .ref a1] h (fun r h' => ex_ X (d + 1) 8 13 [v0, v1, v2] (r.toList ++ []) h' Q) := R_sup (show mx_at 8 10 = some (.invokespecial 23, 3) by decide +kernel) (mx_clk ow8 cc2_23) (Nat.le_of_ble_eq_true rfl) rfl rfl hc (Nat.le_of_ble_eq_true rfl) (Nat.le_of_ble_eq_true rfl) (by rw [ml45]; exact Nat.le_of_ble_eq_true rfl)
set_option maxRecDepth 20000 in
theorem i8_10_c2 (hc : co_ h a = some 2) : ex_ X (d + 1) 8 10 [v0, v1, v2] [.ref a1, .int x0, .ref a] h Q = ev_ X d 45 [.ref a, .int x0, .ref a1] h (fun r h' => ex_ X (d + 1) 8 13 [v0, v1, v2] (r.toList ++ []) h' Q) := R_sup (show mx_at 8 10 = some (.invokespecial 23, 3) by decide +kernel) (mx_clk ow8 cc2_23) (Nat.le_of_ble_eq_true rfl) rfl rfl hc (Nat.le_of_ble_eq_true rfl) (Nat.le_of_ble_eq_true rfl) (by rw [ml45]; exact Nat.le_of_ble_eq_true rfl)
set_option maxRecDepth 20000 in
theorem i8_10_c4 (hc : co_ h a = some 4) : ex_ X (d + 1) 8 10 [v0, v1, v2] [.ref a1, .int x0, .ref a] h Q = ev_ X d 45 [.ref a, .int x0, .ref a1] h (fun r h' => ex_ X (d + 1) 8 13 [v0, v1, v2] (r.toList ++ []) h' Q) := R_sup (show mx_at 8 10 = some (.invokespecial 23, 3) by decide +kernel) (mx_clk ow8 cc2_23) (Nat.le_of_ble_eq_true rfl) rfl rfl hc (Nat.le_of_ble_eq_true rfl) (Nat.le_of_ble_eq_true rfl) (by rw [ml45]; exact Nat.le_of_ble_eq_true rfl)
set_option maxRecDepth 20000 in
theorem i8_10_c6 (hc : co_ h a = some 6) : ex_ X (d + 1) 8 10 [v0, v1, v2] [.ref a1, .int x0, .ref a] h Q = ev_ X d 45 [.ref a, .int x0, .ref a1] h (fun r h' => ex_ X (d + 1) 8 13 [v0, v1, v2] (r.toList ++ []) h' Q) := R_sup (show mx_at 8 10 = some (.invokespecial 23, 3) by decide +kernel) (mx_clk ow8 cc2_23) (Nat.le_of_ble_eq_true rfl) rfl rfl hc (Nat.le_of_ble_eq_true rfl) (Nat.le_of_ble_eq_true rfl) (by rw [ml45]; exact Nat.le_of_ble_eq_true rfl)
set_option maxRecDepth 20000 in
theorem i8_10_c8 (hc : co_ h a = some 8) : ex_ X (d + 1) 8 10 [v0, v1, v2] [.ref a1, .int x0, .ref a] h Q = ev_ X d 45 [.ref a, .int x0, .ref a1] h (fun r h' => ex_ X (d + 1) 8 13 [v0, v1, v2] (r.toList ++ []) h' Q) := R_sup (show mx_at 8 10 = some (.invokespecial 23, 3) by decide +kernel) (mx_clk ow8 cc2_23) (Nat.le_of_ble_eq_true rfl) rfl rfl hc (Nat.le_of_ble_eq_true rfl) (Nat.le_of_ble_eq_true rfl) (by rw [ml45]; exact Nat.le_of_ble_eq_true rfl)
set_option maxRecDepth 20000 in
theorem i8_10_c9 (hc : co_ h a = some 9) : ex_ X (d + 1) 8 10 [v0, v1, v2] [.ref a1, .int x0, .ref a] h Q = ev_ X d 45 [.ref a, .int x0, .ref a1] h (fun r h' => ex_ X (d + 1) 8 13 [v0, v1, v2] (r.toList ++ []) h' Q) := R_sup (show mx_at 8 10 = some (.invokespecial 23, 3) by decide +kernel) (mx_clk ow8 cc2_23) (Nat.le_of_ble_eq_true rfl) rfl rfl hc (Nat.le_of_ble_eq_true rfl) (Nat.le_of_ble_eq_true rfl) (by rw [ml45]; exact Nat.le_of_ble_eq_true rfl)
set_option maxRecDepth 20000 in
theorem i8_13 : ex_ X d 8 13 [v0, v1, v2] [.int x] h Q = ex_ X d 8 14 [v0, v1, v2] [.int (-x)] h Q := ex_nx (show mx_at 8 13 = some (.ineg, 1) by decide +kernel) rfl
set_option maxRecDepth 20000 in
theorem i8_14 : ex_ X d 8 14 [v0, v1, v2] [.int x] h Q = Q (some (.int x)) h := ex_ret (show mx_at 8 14 = some (.ireturn, 1) by decide +kernel) (mx_retI rt8)
theorem i8_e : ev_ X d 8 [.ref a, .int x0, .ref a1] h Q = ex_ X d 8 0 [.ref a, .int x0, .ref a1] [] h Q := by rw [ev_, ml8]; rfl
-- 9 X2_asks
set_option maxRecDepth 20000 in
theorem i9_0 : ex_ X d 9 0 [v0, v1, .ref a] [] h Q = ex_ X d 9 1 [v0, v1, .ref a] [.ref a] h Q := ex_nx (show mx_at 9 0 = some (.aload_n 2, 1) by decide +kernel) rfl
set_option maxRecDepth 20000 in
theorem i9_1 : ex_ X d 9 1 [v0, v1, v2] [w0] h Q = ex_ X d 9 3 [v0, v1, v2] [.int 41, w0] h Q := R_bipush (show mx_at 9 1 = some (.bipush 41, 2) by decide +kernel) (by decide)
set_option maxRecDepth 20000 in
theorem i9_3 (hc : co_ h a = some 5) : ex_ X (d + 1) 9 3 [v0, v1, v2] [.int x0, .ref a] h Q = ev_ X d 36 [.ref a, .int x0] h (fun r h' => ex_ X (d + 1) 9 6 [v0, v1, v2] (r.toList ++ []) h' Q) := R_vir (show mx_at 9 3 = some (.invokevirtual 17, 3) by decide +kernel) (mx_clk ow9 cc2_17) (Nat.le_of_ble_eq_true rfl) rfl rfl hc rfl (Nat.le_of_ble_eq_true rfl) (Nat.le_of_ble_eq_true rfl) (by rw [ml36]; exact Nat.le_of_ble_eq_true rfl)
set_option maxRecDepth 20000 in
theorem i9_6 : ex_ X d 9 6 [v0, v1, v2] [.int x] h Q = ex_ X d 9 7 [v0, v1, v2] [] h Q := ex_nx (show mx_at 9 6 = some (.pop, 1) by decide +kernel) rfl
set_option maxRecDepth 20000 in
theorem i9_7 : ex_ X d 9 7 [.ref a, v1, v2] [] h Q = ex_ X d 9 8 [.ref a, v1, v2] [.ref a] h Q := ex_nx (show mx_at 9 7 = some (.aload_n 0, 1) by decide +kernel) rfl
set_option maxRecDepth 20000 in
theorem i9_8 : ex_ X d 9 8 [v0, .int x, v2] [w0] h Q = ex_ X d 9 9 [v0, .int x, v2] [.int x, w0] h Q := ex_nx (show mx_at 9 8 = some (.iload_n 1, 1) by decide +kernel) rfl
set_option maxRecDepth 20000 in
theorem i9_9 : ex_ X d 9 9 [v0, v1, v2] [w0, w1] h Q = ex_ X d 9 10 [v0, v1, v2] [.int 1, w0, w1] h Q := R_iconst (show mx_at 9 9 = some (.iconst 1, 1) by decide +kernel) (by decide)
set_option maxRecDepth 20000 in
theorem i9_10 : ex_ X d 9 10 [v0, v1, v2] [.int y, .int x, w0] h Q = ex_ X d 9 11 [v0, v1, v2] [.int (x + y), w0] h Q := ex_nx (show mx_at 9 10 = some (.iadd, 1) by decide +kernel) rfl
set_option maxRecDepth 20000 in
theorem i9_11 : ex_ X d 9 11 [v0, v1, .ref a] [w0, w1] h Q = ex_ X d 9 12 [v0, v1, .ref a] [.ref a, w0, w1] h Q := ex_nx (show mx_at 9 11 = some (.aload_n 2, 1) by decide +kernel) rfl
set_option maxRecDepth 20000 in
theorem i9_12_c0 (hc : co_ h a = some 0) : ex_ X (d + 1) 9 12 [v0, v1, v2] [.ref a1, .int x0, .ref a] h Q = ev_ X d 54 [.ref a, .int x0, .ref a1] h (fun r h' => ex_ X (d + 1) 9 15 [v0, v1, v2] (r.toList ++ []) h' Q) := R_sup (show mx_at 9 12 = some (.invokespecial 27, 3) by decide +kernel) (mx_clk ow9 cc2_27) (Nat.le_of_ble_eq_true rfl) rfl rfl hc (Nat.le_of_ble_eq_true rfl) (Nat.le_of_ble_eq_true rfl) (by rw [ml54]; exact Nat.le_of_ble_eq_true rfl)
set_option maxRecDepth 20000 in
theorem i9_12_c1 (hc : co_ h a = some 1) : ex_ X (d + 1) 9 12 [v0, v1, v2] [.ref a1, .int x0, .ref a] h Q = ev_ X d 54 [.ref a, .int x0, .ref a1] h (fun r h' => ex_ X (d + 1) 9 15 [v0, v1, v2] (r.toList ++ []) h' Q) := R_sup (show mx_at 9 12 = some (.invokespecial 27, 3) by decide +kernel) (mx_clk ow9 cc2_27) (Nat.le_of_ble_eq_true rfl) rfl rfl hc (Nat.le_of_ble_eq_true rfl) (Nat.le_of_ble_eq_true rfl) (by rw [ml54]; exact Nat.le_of_ble_eq_true rfl)
set_option maxRecDepth 20000 in
theorem i9_12_c2 (hc : co_ h a = some 2) : ex_ X (d + 1) 9 12 [v0, v1, v2] [.ref a1, .int x0, .ref a] h Q = ev_ X d 54 [.ref a, .int x0, .ref a1] h (fun r h' => ex_ X (d + 1) 9 15 [v0, v1, v2] (r.toList ++ []) h' Q) := R_sup (show mx_at 9 12 = some (.invokespecial 27, 3) by decide +kernel) (mx_clk ow9 cc2_27) (Nat.le_of_ble_eq_true rfl) rfl rfl hc (Nat.le_of_ble_eq_true rfl) (Nat.le_of_ble_eq_true rfl) (by rw [ml54]; exact Nat.le_of_ble_eq_true rfl)
set_option maxRecDepth 20000 in
theorem i9_12_c4 (hc : co_ h a = some 4) : ex_ X (d + 1) 9 12 [v0, v1, v2] [.ref a1, .int x0, .ref a] h Q = ev_ X d 54 [.ref a, .int x0, .ref a1] h (fun r h' => ex_ X (d + 1) 9 15 [v0, v1, v2] (r.toList ++ []) h' Q) := R_sup (show mx_at 9 12 = some (.invokespecial 27, 3) by decide +kernel) (mx_clk ow9 cc2_27) (Nat.le_of_ble_eq_true rfl) rfl rfl hc (Nat.le_of_ble_eq_true rfl) (Nat.le_of_ble_eq_true rfl) (by rw [ml54]; exact Nat.le_of_ble_eq_true rfl)
set_option maxRecDepth 20000 in
theorem i9_12_c6 (hc : co_ h a = some 6) : ex_ X (d + 1) 9 12 [v0, v1, v2] [.ref a1, .int x0, .ref a] h Q = ev_ X d 54 [.ref a, .int x0, .ref a1] h (fun r h' => ex_ X (d + 1) 9 15 [v0, v1, v2] (r.toList ++ []) h' Q) := R_sup (show mx_at 9 12 = some (.invokespecial 27, 3) by decide +kernel) (mx_clk ow9 cc2_27) (Nat.le_of_ble_eq_true rfl) rfl rfl hc (Nat.le_of_ble_eq_true rfl) (Nat.le_of_ble_eq_true rfl) (by rw [ml54]; exact Nat.le_of_ble_eq_true rfl)
set_option maxRecDepth 20000 in
theorem i9_12_c8 (hc : co_ h a = some 8) : ex_ X (d + 1) 9 12 [v0, v1, v2] [.ref a1, .int x0, .ref a] h Q = ev_ X d 54 [.ref a, .int x0, .ref a1] h (fun r h' => ex_ X (d + 1) 9 15 [v0, v1, v2] (r.toList ++ []) h' Q) := R_sup (show mx_at 9 12 = some (.invokespecial 27, 3) by decide +kernel) (mx_clk ow9 cc2_27) (Nat.le_of_ble_eq_true rfl) rfl rfl hc (Nat.le_of_ble_eq_true rfl) (Nat.le_of_ble_eq_true rfl) (by rw [ml54]; exact Nat.le_of_ble_eq_true rfl)
set_option maxRecDepth 20000 in
theorem i9_12_c9 (hc : co_ h a = some 9) : ex_ X (d + 1) 9 12 [v0, v1, v2] [.ref a1, .int x0, .ref a] h Q = ev_ X d 54 [.ref a, .int x0, .ref a1] h (fun r h' => ex_ X (d + 1) 9 15 [v0, v1, v2] (r.toList ++ []) h' Q) := R_sup (show mx_at 9 12 = some (.invokespecial 27, 3) by decide +kernel) (mx_clk ow9 cc2_27) (Nat.le_of_ble_eq_true rfl) rfl rfl hc (Nat.le_of_ble_eq_true rfl) (Nat.le_of_ble_eq_true rfl) (by rw [ml54]; exact Nat.le_of_ble_eq_true rfl)
set_option maxRecDepth 20000 in
theorem i9_15 : ex_ X d 9 15 [v0, v1, v2] [.int x] h Q = Q (some (.int x)) h := ex_ret (show mx_at 9 15 = some (.ireturn, 1) by decide +kernel) (mx_retI rt9)
theorem i9_e : ev_ X d 9 [.ref a, .int x0, .ref a1] h Q = ex_ X d 9 0 [.ref a, .int x0, .ref a1] [] h Q := by rw [ev_, ml9]; rfl
-- 10 X3_init
set_option maxRecDepth 20000 in
theorem i10_0 : ex_ X d 10 0 [.ref a] [] h Q = ex_ X d 10 1 [.ref a] [.ref a] h Q := ex_nx (show mx_at 10 0 = some (.aload_n 0, 1) by decide +kernel) rfl
set_option maxRecDepth 20000 in
theorem i10_1 : ex_ X (d + 1) 10 1 [v0] [.ref a] h Q = ex_ X (d + 1) 10 4 [v0] [] h Q := R_obj (show mx_at 10 1 = some (.invokespecial 3, 3) by decide +kernel) (mx_clk ow10 cc3_3) (Nat.le_of_ble_eq_true rfl)
set_option maxRecDepth 20000 in
theorem i10_4 : ex_ X d 10 4 [.ref a] [] h Q = ex_ X d 10 5 [.ref a] [.ref a] h Q := ex_nx (show mx_at 10 4 = some (.aload_n 0, 1) by decide +kernel) rfl
set_option maxRecDepth 20000 in
theorem i10_5 : ex_ X d 10 5 [v0] [w0] h Q = ex_ X d 10 6 [v0] [.int 1, w0] h Q := R_iconst (show mx_at 10 5 = some (.iconst 1, 1) by decide +kernel) (by decide)
set_option maxRecDepth 20000 in
theorem i10_6 : ex_ X d 10 6 [v0] [w, .ref a] h Q = (pk_ 10 h a 3 w [(3, 0)] = true ∧ ex_ X d 10 9 [v0] [] (pf_ h a 3 w) Q) := R_putf (show mx_at 10 6 = some (.putfield 9, 3) by decide +kernel) (mx_fdo ow10 fd30009)
set_option maxRecDepth 20000 in
theorem i10_9 : ex_ X d 10 9 [.ref a] [] h Q = ex_ X d 10 10 [.ref a] [.ref a] h Q := ex_nx (show mx_at 10 9 = some (.aload_n 0, 1) by decide +kernel) rfl
set_option maxRecDepth 20000 in
theorem i10_10 : ex_ X d 10 10 [v0] [w0] h Q = ex_ X d 10 11 [v0] [.int 3, w0] h Q := R_iconst (show mx_at 10 10 = some (.iconst 3, 1) by decide +kernel) (by decide)
set_option maxRecDepth 20000 in
theorem i10_11 (hn : 0 ≤ x ∧ x.toNatClampNeg ≤ 1000) : ex_ X d 10 11 [v0] [.int x, w0] h Q = ex_ X d 10 13 [v0] [.ref h.length, w0] (h ++ [.inl (0, x.toNatClampNeg, .inl (fun _ => 0))]) Q := R_newa (kd := 0) (w := 2) (i := .newarray .int) (show mx_at 10 11 = some (.newarray .int, 2) by decide +kernel) (fun _ => rfl) hn
set_option maxRecDepth 20000 in
theorem i10_13 : ex_ X d 10 13 [v0] [.ref a, w0] h Q = ex_ X d 10 14 [v0] [.ref a, .ref a, w0] h Q := ex_nx (show mx_at 10 13 = some (.dup, 1) by decide +kernel) rfl
set_option maxRecDepth 20000 in
theorem i10_14 : ex_ X d 10 14 [v0] [w0, w1, w2] h Q = ex_ X d 10 15 [v0] [.int 0, w0, w1, w2] h Q := R_iconst (show mx_at 10 14 = some (.iconst 0, 1) by decide +kernel) (by decide)
set_option maxRecDepth 20000 in
theorem i10_15 : ex_ X d 10 15 [v0] [w0, w1, w2, w3] h Q = ex_ X d 10 17 [v0] [.int 10, w0, w1, w2, w3] h Q := R_bipush (show mx_at 10 15 = some (.bipush 10, 2) by decide +kernel) (by decide)
set_option maxRecDepth 20000 in
theorem i10_17 : ex_ X d 10 17 [v0] [.int x, .int i, .ref a, w0, w1] h Q = (ik_ h a i = true ∧ ex_ X d 10 18 [v0] [w0, w1] (is_ h a i x) Q) := R_iast (show mx_at 10 17 = some (.iastore, 1) by decide +kernel)
set_option maxRecDepth 20000 in
theorem i10_18 : ex_ X d 10 18 [v0] [.ref a, w0] h Q = ex_ X d 10 19 [v0] [.ref a, .ref a, w0] h Q := ex_nx (show mx_at 10 18 = some (.dup, 1) by decide +kernel) rfl
set_option maxRecDepth 20000 in
theorem i10_19 : ex_ X d 10 19 [v0] [w0, w1, w2] h Q = ex_ X d 10 20 [v0] [.int 1, w0, w1, w2] h Q := R_iconst (show mx_at 10 19 = some (.iconst 1, 1) by decide +kernel) (by decide)
set_option maxRecDepth 20000 in
theorem i10_20 : ex_ X d 10 20 [v0] [w0, w1, w2, w3] h Q = ex_ X d 10 22 [v0] [.int 10, w0, w1, w2, w3] h Q := R_bipush (show mx_at 10 20 = some (.bipush 10, 2) by decide +kernel) (by decide)
set_option maxRecDepth 20000 in
theorem i10_22 : ex_ X d 10 22 [v0] [.int x, .int i, .ref a, w0, w1] h Q = (ik_ h a i = true ∧ ex_ X d 10 23 [v0] [w0, w1] (is_ h a i x) Q) := R_iast (show mx_at 10 22 = some (.iastore, 1) by decide +kernel)
set_option maxRecDepth 20000 in
theorem i10_23 : ex_ X d 10 23 [v0] [.ref a, w0] h Q = ex_ X d 10 24 [v0] [.ref a, .ref a, w0] h Q := ex_nx (show mx_at 10 23 = some (.dup, 1) by decide +kernel) rfl
set_option maxRecDepth 20000 in
theorem i10_24 : ex_ X d 10 24 [v0] [w0, w1, w2] h Q = ex_ X d 10 25 [v0] [.int 2, w0, w1, w2] h Q := R_iconst (show mx_at 10 24 = some (.iconst 2, 1) by decide +kernel) (by decide)
set_option maxRecDepth 20000 in
theorem i10_25 : ex_ X d 10 25 [v0] [w0, w1, w2, w3] h Q = ex_ X d 10 27 [v0] [.int 10, w0, w1, w2, w3] h Q := R_bipush (show mx_at 10 25 = some (.bipush 10, 2) by decide +kernel) (by decide)
set_option maxRecDepth 20000 in
theorem i10_27 : ex_ X d 10 27 [v0] [.int x, .int i, .ref a, w0, w1] h Q = (ik_ h a i = true ∧ ex_ X d 10 28 [v0] [w0, w1] (is_ h a i x) Q) := R_iast (show mx_at 10 27 = some (.iastore, 1) by decide +kernel)
set_option maxRecDepth 20000 in
theorem i10_28 : ex_ X d 10 28 [v0] [w, .ref a] h Q = (pk_ 10 h a 4 w [(3, 0)] = true ∧ ex_ X d 10 31 [v0] [] (pf_ h a 4 w) Q) := R_putf (show mx_at 10 28 = some (.putfield 15, 3) by decide +kernel) (mx_fdo ow10 fd30015)
set_option maxRecDepth 20000 in
theorem i10_31 : ex_ X d 10 31 [.ref a] [] h Q = ex_ X d 10 32 [.ref a] [.ref a] h Q := ex_nx (show mx_at 10 31 = some (.aload_n 0, 1) by decide +kernel) rfl
set_option maxRecDepth 20000 in
theorem i10_32 : ex_ X d 10 32 [v0] [w0] h Q = ex_ X d 10 33 [v0] [.int 2, w0] h Q := R_iconst (show mx_at 10 32 = some (.iconst 2, 1) by decide +kernel) (by decide)
set_option maxRecDepth 20000 in
theorem i10_33 (hn : 0 ≤ x ∧ x.toNatClampNeg ≤ 1000) : ex_ X d 10 33 [v0] [.int x, w0] h Q = ex_ X d 10 36 [v0] [.ref h.length, w0] (h ++ [.inl (2, x.toNatClampNeg, mx_rfs (fun _ => none))]) Q := R_anew (show mx_at 10 33 = some (.anewarray 19, 3) by decide +kernel) (mx_lko ow10 cl30019) rfl hn
set_option maxRecDepth 20000 in
theorem i10_36 : ex_ X d 10 36 [v0] [w, .ref a] h Q = (pk_ 10 h a 5 w [(3, 0)] = true ∧ ex_ X d 10 39 [v0] [] (pf_ h a 5 w) Q) := R_putf (show mx_at 10 36 = some (.putfield 21, 3) by decide +kernel) (mx_fdo ow10 fd30021)
set_option maxRecDepth 20000 in
theorem i10_39 : ex_ X d 10 39 [.ref a] [] h Q = ex_ X d 10 40 [.ref a] [.ref a] h Q := ex_nx (show mx_at 10 39 = some (.aload_n 0, 1) by decide +kernel) rfl
set_option maxRecDepth 20000 in
theorem i10_40 : ex_ X d 10 40 [v0] [w0] h Q = ex_ X d 10 42 [v0] [.int 6, w0] h Q := R_bipush (show mx_at 10 40 = some (.bipush 6, 2) by decide +kernel) (by decide)
set_option maxRecDepth 20000 in
theorem i10_42 (hn : 0 ≤ x ∧ x.toNatClampNeg ≤ 1000) : ex_ X d 10 42 [v0] [.int x, w0] h Q = ex_ X d 10 45 [v0] [.ref h.length, w0] (h ++ [.inl (3, x.toNatClampNeg, mx_rfs (fun _ => none))]) Q := R_anew (show mx_at 10 42 = some (.anewarray 25, 3) by decide +kernel) (mx_lko ow10 cl30025) rfl hn
set_option maxRecDepth 20000 in
theorem i10_45 : ex_ X d 10 45 [v0] [w, .ref a] h Q = (pk_ 10 h a 6 w [(3, 0)] = true ∧ ex_ X d 10 48 [v0] [] (pf_ h a 6 w) Q) := R_putf (show mx_at 10 45 = some (.putfield 27, 3) by decide +kernel) (mx_fdo ow10 fd30027)
set_option maxRecDepth 20000 in
theorem i10_48 : ex_ X d 10 48 [.ref a] [] h Q = ex_ X d 10 49 [.ref a] [.ref a] h Q := ex_nx (show mx_at 10 48 = some (.aload_n 0, 1) by decide +kernel) rfl
set_option maxRecDepth 20000 in
theorem i10_49 : ex_ X d 10 49 [v0] [w0] h Q = ex_ X d 10 51 [v0] [.int 6, w0] h Q := R_bipush (show mx_at 10 49 = some (.bipush 6, 2) by decide +kernel) (by decide)
set_option maxRecDepth 20000 in
theorem i10_51 (hn : 0 ≤ x ∧ x.toNatClampNeg ≤ 1000) : ex_ X d 10 51 [v0] [.int x, w0] h Q = ex_ X d 10 53 [v0] [.ref h.length, w0] (h ++ [.inl (0, x.toNatClampNeg, .inl (fun _ => 0))]) Q := R_newa (kd := 0) (w := 2) (i := .newarray .int) (show mx_at 10 51 = some (.newarray .int, 2) by decide +kernel) (fun _ => rfl) hn
set_option maxRecDepth 20000 in
theorem i10_53 : ex_ X d 10 53 [v0] [w, .ref a] h Q = (pk_ 10 h a 8 w [(3, 0)] = true ∧ ex_ X d 10 56 [v0] [] (pf_ h a 8 w) Q) := R_putf (show mx_at 10 53 = some (.putfield 31, 3) by decide +kernel) (mx_fdo ow10 fd30031)
set_option maxRecDepth 20000 in
theorem i10_56 : ex_ X d 10 56 [.ref a] [] h Q = ex_ X d 10 57 [.ref a] [.ref a] h Q := ex_nx (show mx_at 10 56 = some (.aload_n 0, 1) by decide +kernel) rfl
set_option maxRecDepth 20000 in
theorem i10_57 : ex_ X d 10 57 [v0] [w0] h Q = ex_ X d 10 59 [v0] [.int 6, w0] h Q := R_bipush (show mx_at 10 57 = some (.bipush 6, 2) by decide +kernel) (by decide)
set_option maxRecDepth 20000 in
theorem i10_59 (hn : 0 ≤ x ∧ x.toNatClampNeg ≤ 1000) : ex_ X d 10 59 [v0] [.int x, w0] h Q = ex_ X d 10 61 [v0] [.ref h.length, w0] (h ++ [.inl (0, x.toNatClampNeg, .inl (fun _ => 0))]) Q := R_newa (kd := 0) (w := 2) (i := .newarray .int) (show mx_at 10 59 = some (.newarray .int, 2) by decide +kernel) (fun _ => rfl) hn
set_option maxRecDepth 20000 in
theorem i10_61 : ex_ X d 10 61 [v0] [w, .ref a] h Q = (pk_ 10 h a 9 w [(3, 0)] = true ∧ ex_ X d 10 64 [v0] [] (pf_ h a 9 w) Q) := R_putf (show mx_at 10 61 = some (.putfield 34, 3) by decide +kernel) (mx_fdo ow10 fd30034)
set_option maxRecDepth 20000 in
theorem i10_64 : ex_ X d 10 64 [.ref a] [] h Q = ex_ X d 10 65 [.ref a] [.ref a] h Q := ex_nx (show mx_at 10 64 = some (.aload_n 0, 1) by decide +kernel) rfl
set_option maxRecDepth 20000 in
theorem i10_65 : ex_ X d 10 65 [v0] [w0] h Q = ex_ X d 10 67 [v0] [.int 6, w0] h Q := R_bipush (show mx_at 10 65 = some (.bipush 6, 2) by decide +kernel) (by decide)
set_option maxRecDepth 20000 in
theorem i10_67 (hn : 0 ≤ x ∧ x.toNatClampNeg ≤ 1000) : ex_ X d 10 67 [v0] [.int x, w0] h Q = ex_ X d 10 69 [v0] [.ref h.length, w0] (h ++ [.inl (0, x.toNatClampNeg, .inl (fun _ => 0))]) Q := R_newa (kd := 0) (w := 2) (i := .newarray .int) (show mx_at 10 67 = some (.newarray .int, 2) by decide +kernel) (fun _ => rfl) hn
set_option maxRecDepth 20000 in
theorem i10_69 : ex_ X d 10 69 [v0] [w, .ref a] h Q = (pk_ 10 h a 10 w [(3, 0)] = true ∧ ex_ X d 10 72 [v0] [] (pf_ h a 10 w) Q) := R_putf (show mx_at 10 69 = some (.putfield 37, 3) by decide +kernel) (mx_fdo ow10 fd30037)
set_option maxRecDepth 20000 in
theorem i10_72 : ex_ X d 10 72 [.ref a] [] h Q = ex_ X d 10 73 [.ref a] [.ref a] h Q := ex_nx (show mx_at 10 72 = some (.aload_n 0, 1) by decide +kernel) rfl
set_option maxRecDepth 20000 in
theorem i10_73 : ex_ X d 10 73 [v0] [w0] h Q = ex_ X d 10 75 [v0] [.int 6, w0] h Q := R_bipush (show mx_at 10 73 = some (.bipush 6, 2) by decide +kernel) (by decide)
set_option maxRecDepth 20000 in
theorem i10_75 (hn : 0 ≤ x ∧ x.toNatClampNeg ≤ 1000) : ex_ X d 10 75 [v0] [.int x, w0] h Q = ex_ X d 10 77 [v0] [.ref h.length, w0] (h ++ [.inl (0, x.toNatClampNeg, .inl (fun _ => 0))]) Q := R_newa (kd := 0) (w := 2) (i := .newarray .int) (show mx_at 10 75 = some (.newarray .int, 2) by decide +kernel) (fun _ => rfl) hn
set_option maxRecDepth 20000 in
theorem i10_77 : ex_ X d 10 77 [v0] [w, .ref a] h Q = (pk_ 10 h a 11 w [(3, 0)] = true ∧ ex_ X d 10 80 [v0] [] (pf_ h a 11 w) Q) := R_putf (show mx_at 10 77 = some (.putfield 40, 3) by decide +kernel) (mx_fdo ow10 fd30040)
set_option maxRecDepth 20000 in
theorem i10_80 : ex_ X d 10 80 [.ref a] [] h Q = ex_ X d 10 81 [.ref a] [.ref a] h Q := ex_nx (show mx_at 10 80 = some (.aload_n 0, 1) by decide +kernel) rfl
set_option maxRecDepth 20000 in
theorem i10_81 : ex_ X d 10 81 [v0] [w0] h Q = ex_ X d 10 83 [v0] [.int 8, w0] h Q := R_bipush (show mx_at 10 81 = some (.bipush 8, 2) by decide +kernel) (by decide)
set_option maxRecDepth 20000 in
theorem i10_83 (hn : 0 ≤ x ∧ x.toNatClampNeg ≤ 1000) : ex_ X d 10 83 [v0] [.int x, w0] h Q = ex_ X d 10 85 [v0] [.ref h.length, w0] (h ++ [.inl (0, x.toNatClampNeg, .inl (fun _ => 0))]) Q := R_newa (kd := 0) (w := 2) (i := .newarray .int) (show mx_at 10 83 = some (.newarray .int, 2) by decide +kernel) (fun _ => rfl) hn
set_option maxRecDepth 20000 in
theorem i10_85 : ex_ X d 10 85 [v0] [w, .ref a] h Q = (pk_ 10 h a 13 w [(3, 0)] = true ∧ ex_ X d 10 88 [v0] [] (pf_ h a 13 w) Q) := R_putf (show mx_at 10 85 = some (.putfield 43, 3) by decide +kernel) (mx_fdo ow10 fd30043)
set_option maxRecDepth 20000 in
theorem i10_88 : ex_ X d 10 88 [.ref a] [] h Q = ex_ X d 10 89 [.ref a] [.ref a] h Q := ex_nx (show mx_at 10 88 = some (.aload_n 0, 1) by decide +kernel) rfl
set_option maxRecDepth 20000 in
theorem i10_89 : ex_ X d 10 89 [v0] [w0] h Q = ex_ X d 10 91 [v0] [.int 8, w0] h Q := R_bipush (show mx_at 10 89 = some (.bipush 8, 2) by decide +kernel) (by decide)
set_option maxRecDepth 20000 in
theorem i10_91 (hn : 0 ≤ x ∧ x.toNatClampNeg ≤ 1000) : ex_ X d 10 91 [v0] [.int x, w0] h Q = ex_ X d 10 93 [v0] [.ref h.length, w0] (h ++ [.inl (0, x.toNatClampNeg, .inl (fun _ => 0))]) Q := R_newa (kd := 0) (w := 2) (i := .newarray .int) (show mx_at 10 91 = some (.newarray .int, 2) by decide +kernel) (fun _ => rfl) hn
set_option maxRecDepth 20000 in
theorem i10_93 : ex_ X d 10 93 [v0] [w, .ref a] h Q = (pk_ 10 h a 14 w [(3, 0)] = true ∧ ex_ X d 10 96 [v0] [] (pf_ h a 14 w) Q) := R_putf (show mx_at 10 93 = some (.putfield 46, 3) by decide +kernel) (mx_fdo ow10 fd30046)
set_option maxRecDepth 20000 in
theorem i10_96 : ex_ X d 10 96 [.ref a] [] h Q = ex_ X d 10 97 [.ref a] [.ref a] h Q := ex_nx (show mx_at 10 96 = some (.aload_n 0, 1) by decide +kernel) rfl
set_option maxRecDepth 20000 in
theorem i10_97 : ex_ X d 10 97 [v0] [w0] h Q = ex_ X d 10 99 [v0] [.int 8, w0] h Q := R_bipush (show mx_at 10 97 = some (.bipush 8, 2) by decide +kernel) (by decide)
set_option maxRecDepth 20000 in
theorem i10_99 (hn : 0 ≤ x ∧ x.toNatClampNeg ≤ 1000) : ex_ X d 10 99 [v0] [.int x, w0] h Q = ex_ X d 10 101 [v0] [.ref h.length, w0] (h ++ [.inl (0, x.toNatClampNeg, .inl (fun _ => 0))]) Q := R_newa (kd := 0) (w := 2) (i := .newarray .int) (show mx_at 10 99 = some (.newarray .int, 2) by decide +kernel) (fun _ => rfl) hn
set_option maxRecDepth 20000 in
theorem i10_101 : ex_ X d 10 101 [v0] [w, .ref a] h Q = (pk_ 10 h a 15 w [(3, 0)] = true ∧ ex_ X d 10 104 [v0] [] (pf_ h a 15 w) Q) := R_putf (show mx_at 10 101 = some (.putfield 49, 3) by decide +kernel) (mx_fdo ow10 fd30049)
set_option maxRecDepth 20000 in
theorem i10_104 : ex_ X d 10 104 [.ref a] [] h Q = ex_ X d 10 105 [.ref a] [.ref a] h Q := ex_nx (show mx_at 10 104 = some (.aload_n 0, 1) by decide +kernel) rfl
set_option maxRecDepth 20000 in
theorem i10_105 : ex_ X d 10 105 [v0] [w0] h Q = ex_ X d 10 107 [v0] [.int 8, w0] h Q := R_bipush (show mx_at 10 105 = some (.bipush 8, 2) by decide +kernel) (by decide)
set_option maxRecDepth 20000 in
theorem i10_107 (hn : 0 ≤ x ∧ x.toNatClampNeg ≤ 1000) : ex_ X d 10 107 [v0] [.int x, w0] h Q = ex_ X d 10 109 [v0] [.ref h.length, w0] (h ++ [.inl (0, x.toNatClampNeg, .inl (fun _ => 0))]) Q := R_newa (kd := 0) (w := 2) (i := .newarray .int) (show mx_at 10 107 = some (.newarray .int, 2) by decide +kernel) (fun _ => rfl) hn
set_option maxRecDepth 20000 in
theorem i10_109 : ex_ X d 10 109 [v0] [w, .ref a] h Q = (pk_ 10 h a 16 w [(3, 0)] = true ∧ ex_ X d 10 112 [v0] [] (pf_ h a 16 w) Q) := R_putf (show mx_at 10 109 = some (.putfield 52, 3) by decide +kernel) (mx_fdo ow10 fd30052)
set_option maxRecDepth 20000 in
theorem i10_112 : ex_ X d 10 112 [v0] [] h Q = Q none h := ex_ret (show mx_at 10 112 = some (.return_, 1) by decide +kernel) (mx_retV rt10)
theorem i10_e : ev_ X d 10 [.ref a] h Q = ex_ X d 10 0 [.ref a] [] h Q := by rw [ev_, ml10]; rfl
-- 11 X3_become
set_option maxRecDepth 20000 in
theorem i11_0 : ex_ X d 11 0 [.ref a, v1, v2] [] h Q = ex_ X d 11 1 [.ref a, v1, v2] [.ref a] h Q := ex_nx (show mx_at 11 0 = some (.aload_n 0, 1) by decide +kernel) rfl
set_option maxRecDepth 20000 in
theorem i11_0n : ex_ X d 11 0 [.null, v1, v2] [] h Q = ex_ X d 11 1 [.null, v1, v2] [.null] h Q := ex_nx (show mx_at 11 0 = some (.aload_n 0, 1) by decide +kernel) rfl
set_option maxRecDepth 20000 in
theorem i11_1 : ex_ X d 11 1 [v0, .ref a, v2] [w0] h Q = ex_ X d 11 2 [v0, .ref a, v2] [.ref a, w0] h Q := ex_nx (show mx_at 11 1 = some (.aload_n 1, 1) by decide +kernel) rfl
set_option maxRecDepth 20000 in
theorem i11_1n : ex_ X d 11 1 [v0, .null, v2] [w0] h Q = ex_ X d 11 2 [v0, .null, v2] [.null, w0] h Q := ex_nx (show mx_at 11 1 = some (.aload_n 1, 1) by decide +kernel) rfl
set_option maxRecDepth 20000 in
theorem i11_2 : ex_ X d 11 2 [v0, v1, v2] [.ref a, w0] h Q = (gk_ h a 0 [(3, 0)] = true ∧ ex_ X d 11 5 [v0, v1, v2] [gv_ h a 0, w0] h Q) := R_getf (show mx_at 11 2 = some (.getfield 55, 3) by decide +kernel) (mx_fdo ow11 fd30055)
set_option maxRecDepth 20000 in
theorem i11_5 : ex_ X d 11 5 [v0, v1, v2] [w, .ref a] h Q = (pk_ 11 h a 0 w [(3, 0)] = true ∧ ex_ X d 11 8 [v0, v1, v2] [] (pf_ h a 0 w) Q) := R_putf (show mx_at 11 5 = some (.putfield 55, 3) by decide +kernel) (mx_fdo ow11 fd30055)
set_option maxRecDepth 20000 in
theorem i11_8 : ex_ X d 11 8 [.ref a, v1, v2] [] h Q = ex_ X d 11 9 [.ref a, v1, v2] [.ref a] h Q := ex_nx (show mx_at 11 8 = some (.aload_n 0, 1) by decide +kernel) rfl
set_option maxRecDepth 20000 in
theorem i11_8n : ex_ X d 11 8 [.null, v1, v2] [] h Q = ex_ X d 11 9 [.null, v1, v2] [.null] h Q := ex_nx (show mx_at 11 8 = some (.aload_n 0, 1) by decide +kernel) rfl
set_option maxRecDepth 20000 in
theorem i11_9 : ex_ X d 11 9 [v0, .ref a, v2] [w0] h Q = ex_ X d 11 10 [v0, .ref a, v2] [.ref a, w0] h Q := ex_nx (show mx_at 11 9 = some (.aload_n 1, 1) by decide +kernel) rfl
set_option maxRecDepth 20000 in
theorem i11_9n : ex_ X d 11 9 [v0, .null, v2] [w0] h Q = ex_ X d 11 10 [v0, .null, v2] [.null, w0] h Q := ex_nx (show mx_at 11 9 = some (.aload_n 1, 1) by decide +kernel) rfl
set_option maxRecDepth 20000 in
theorem i11_10 : ex_ X d 11 10 [v0, v1, v2] [.ref a, w0] h Q = (gk_ h a 1 [(3, 0)] = true ∧ ex_ X d 11 13 [v0, v1, v2] [gv_ h a 1, w0] h Q) := R_getf (show mx_at 11 10 = some (.getfield 59, 3) by decide +kernel) (mx_fdo ow11 fd30059)
set_option maxRecDepth 20000 in
theorem i11_13 : ex_ X d 11 13 [v0, v1, v2] [w, .ref a] h Q = (pk_ 11 h a 1 w [(3, 0)] = true ∧ ex_ X d 11 16 [v0, v1, v2] [] (pf_ h a 1 w) Q) := R_putf (show mx_at 11 13 = some (.putfield 59, 3) by decide +kernel) (mx_fdo ow11 fd30059)
set_option maxRecDepth 20000 in
theorem i11_16 : ex_ X d 11 16 [.ref a, v1, v2] [] h Q = ex_ X d 11 17 [.ref a, v1, v2] [.ref a] h Q := ex_nx (show mx_at 11 16 = some (.aload_n 0, 1) by decide +kernel) rfl
set_option maxRecDepth 20000 in
theorem i11_16n : ex_ X d 11 16 [.null, v1, v2] [] h Q = ex_ X d 11 17 [.null, v1, v2] [.null] h Q := ex_nx (show mx_at 11 16 = some (.aload_n 0, 1) by decide +kernel) rfl
set_option maxRecDepth 20000 in
theorem i11_17 : ex_ X d 11 17 [v0, .ref a, v2] [w0] h Q = ex_ X d 11 18 [v0, .ref a, v2] [.ref a, w0] h Q := ex_nx (show mx_at 11 17 = some (.aload_n 1, 1) by decide +kernel) rfl
set_option maxRecDepth 20000 in
theorem i11_17n : ex_ X d 11 17 [v0, .null, v2] [w0] h Q = ex_ X d 11 18 [v0, .null, v2] [.null, w0] h Q := ex_nx (show mx_at 11 17 = some (.aload_n 1, 1) by decide +kernel) rfl
set_option maxRecDepth 20000 in
theorem i11_18 : ex_ X d 11 18 [v0, v1, v2] [.ref a, w0] h Q = (gk_ h a 2 [(3, 0)] = true ∧ ex_ X d 11 21 [v0, v1, v2] [gv_ h a 2, w0] h Q) := R_getf (show mx_at 11 18 = some (.getfield 62, 3) by decide +kernel) (mx_fdo ow11 fd30062)
set_option maxRecDepth 20000 in
theorem i11_21 : ex_ X d 11 21 [v0, v1, v2] [w, .ref a] h Q = (pk_ 11 h a 2 w [(3, 0)] = true ∧ ex_ X d 11 24 [v0, v1, v2] [] (pf_ h a 2 w) Q) := R_putf (show mx_at 11 21 = some (.putfield 62, 3) by decide +kernel) (mx_fdo ow11 fd30062)
set_option maxRecDepth 20000 in
theorem i11_24 : ex_ X d 11 24 [.ref a, v1, v2] [] h Q = ex_ X d 11 25 [.ref a, v1, v2] [.ref a] h Q := ex_nx (show mx_at 11 24 = some (.aload_n 0, 1) by decide +kernel) rfl
set_option maxRecDepth 20000 in
theorem i11_24n : ex_ X d 11 24 [.null, v1, v2] [] h Q = ex_ X d 11 25 [.null, v1, v2] [.null] h Q := ex_nx (show mx_at 11 24 = some (.aload_n 0, 1) by decide +kernel) rfl
set_option maxRecDepth 20000 in
theorem i11_25 : ex_ X d 11 25 [v0, .ref a, v2] [w0] h Q = ex_ X d 11 26 [v0, .ref a, v2] [.ref a, w0] h Q := ex_nx (show mx_at 11 25 = some (.aload_n 1, 1) by decide +kernel) rfl
set_option maxRecDepth 20000 in
theorem i11_25n : ex_ X d 11 25 [v0, .null, v2] [w0] h Q = ex_ X d 11 26 [v0, .null, v2] [.null, w0] h Q := ex_nx (show mx_at 11 25 = some (.aload_n 1, 1) by decide +kernel) rfl
set_option maxRecDepth 20000 in
theorem i11_26 : ex_ X d 11 26 [v0, v1, v2] [.ref a, w0] h Q = (gk_ h a 3 [(3, 0)] = true ∧ ex_ X d 11 29 [v0, v1, v2] [gv_ h a 3, w0] h Q) := R_getf (show mx_at 11 26 = some (.getfield 9, 3) by decide +kernel) (mx_fdo ow11 fd30009)
set_option maxRecDepth 20000 in
theorem i11_29 : ex_ X d 11 29 [v0, v1, v2] [w, .ref a] h Q = (pk_ 11 h a 3 w [(3, 0)] = true ∧ ex_ X d 11 32 [v0, v1, v2] [] (pf_ h a 3 w) Q) := R_putf (show mx_at 11 29 = some (.putfield 9, 3) by decide +kernel) (mx_fdo ow11 fd30009)
set_option maxRecDepth 20000 in
theorem i11_32 : ex_ X d 11 32 [v0, .ref a, v2] [] h Q = ex_ X d 11 33 [v0, .ref a, v2] [.ref a] h Q := ex_nx (show mx_at 11 32 = some (.aload_n 1, 1) by decide +kernel) rfl
set_option maxRecDepth 20000 in
theorem i11_32n : ex_ X d 11 32 [v0, .null, v2] [] h Q = ex_ X d 11 33 [v0, .null, v2] [.null] h Q := ex_nx (show mx_at 11 32 = some (.aload_n 1, 1) by decide +kernel) rfl
set_option maxRecDepth 20000 in
theorem i11_33 : ex_ X d 11 33 [v0, v1, v2] [.ref a] h Q = (gk_ h a 4 [(3, 0)] = true ∧ ex_ X d 11 36 [v0, v1, v2] [gv_ h a 4] h Q) := R_getf (show mx_at 11 33 = some (.getfield 15, 3) by decide +kernel) (mx_fdo ow11 fd30015)
set_option maxRecDepth 20000 in
theorem i11_36 : ex_ X d 11 36 [v0, v1, v2] [w0] h Q = ex_ X d 11 37 [v0, v1, v2] [.int 0, w0] h Q := R_iconst (show mx_at 11 36 = some (.iconst 0, 1) by decide +kernel) (by decide)
set_option maxRecDepth 20000 in
theorem i11_37 : ex_ X d 11 37 [.ref a, v1, v2] [w0, w1] h Q = ex_ X d 11 38 [.ref a, v1, v2] [.ref a, w0, w1] h Q := ex_nx (show mx_at 11 37 = some (.aload_n 0, 1) by decide +kernel) rfl
set_option maxRecDepth 20000 in
theorem i11_37n : ex_ X d 11 37 [.null, v1, v2] [w0, w1] h Q = ex_ X d 11 38 [.null, v1, v2] [.null, w0, w1] h Q := ex_nx (show mx_at 11 37 = some (.aload_n 0, 1) by decide +kernel) rfl
set_option maxRecDepth 20000 in
theorem i11_38 : ex_ X d 11 38 [v0, v1, v2] [.ref a, w0, w1] h Q = (gk_ h a 4 [(3, 0)] = true ∧ ex_ X d 11 41 [v0, v1, v2] [gv_ h a 4, w0, w1] h Q) := R_getf (show mx_at 11 38 = some (.getfield 15, 3) by decide +kernel) (mx_fdo ow11 fd30015)
set_option maxRecDepth 20000 in
theorem i11_41 : ex_ X d 11 41 [v0, v1, v2] [w0, w1, w2] h Q = ex_ X d 11 42 [v0, v1, v2] [.int 0, w0, w1, w2] h Q := R_iconst (show mx_at 11 41 = some (.iconst 0, 1) by decide +kernel) (by decide)
set_option maxRecDepth 20000 in
theorem i11_42 : ex_ X d 11 42 [v0, v1, v2] [w0, w1, w2, w3] h Q = ex_ X d 11 43 [v0, v1, v2] [.int 3, w0, w1, w2, w3] h Q := R_iconst (show mx_at 11 42 = some (.iconst 3, 1) by decide +kernel) (by decide)
set_option maxRecDepth 20000 in
theorem i11_43 : ex_ X (d + 1) 11 43 [v0, v1, v2] [.int x, .int y, .ref a, .int z, .ref b] h Q = (ck_ h a b z y x = true ∧ ex_ X (d + 1) 11 46 [v0, v1, v2] [] (cs_ h a b z y x) Q) := R_copy (show mx_at 11 43 = some (.invokestatic 65, 3) by decide +kernel) (mx_clk ow11 cc3_65) (Nat.le_of_ble_eq_true rfl)
set_option maxRecDepth 20000 in
theorem i11_46 : ex_ X d 11 46 [v0, v1, v2] [] h Q = ex_ X d 11 47 [v0, v1, v2] [.int 0] h Q := R_iconst (show mx_at 11 46 = some (.iconst 0, 1) by decide +kernel) (by decide)
set_option maxRecDepth 20000 in
theorem i11_47 : ex_ X d 11 47 [v0, v1, v2] [.int x] h Q = (mx_nl v1 = true ∧ ex_ X d 11 48 [v0, v1, .int x] [] h Q) := mx_t1 (R_st (ok := mx_isI) (n := 2) (w := 1) (show mx_at 11 47 = some (.istore_n 2, 1) by decide +kernel) (fun _ _ => rfl) (Nat.le_of_ble_eq_true rfl)) rfl
set_option maxRecDepth 20000 in
theorem i11_48 : ex_ X d 11 48 [v0, v1, .int x] [] h Q = ex_ X d 11 49 [v0, v1, .int x] [.int x] h Q := ex_nx (show mx_at 11 48 = some (.iload_n 2, 1) by decide +kernel) rfl
set_option maxRecDepth 20000 in
theorem i11_49 : ex_ X d 11 49 [v0, v1, v2] [w0] h Q = ex_ X d 11 50 [v0, v1, v2] [.int 2, w0] h Q := R_iconst (show mx_at 11 49 = some (.iconst 2, 1) by decide +kernel) (by decide)
set_option maxRecDepth 20000 in
theorem i11_50 : ex_ X d 11 50 [v0, v1, v2] [.int y, .int x] h Q = if y ≤ x then ex_ X d 11 71 [v0, v1, v2] [] h Q else ex_ X d 11 53 [v0, v1, v2] [] h Q := (R_br (show mx_at 11 50 = some (.if_icmp .ge 21, 3) by decide +kernel) rfl rfl).trans mx_ite
set_option maxRecDepth 20000 in
theorem i11_53 : ex_ X d 11 53 [.ref a, v1, v2] [] h Q = ex_ X d 11 54 [.ref a, v1, v2] [.ref a] h Q := ex_nx (show mx_at 11 53 = some (.aload_n 0, 1) by decide +kernel) rfl
set_option maxRecDepth 20000 in
theorem i11_53n : ex_ X d 11 53 [.null, v1, v2] [] h Q = ex_ X d 11 54 [.null, v1, v2] [.null] h Q := ex_nx (show mx_at 11 53 = some (.aload_n 0, 1) by decide +kernel) rfl
set_option maxRecDepth 20000 in
theorem i11_54 : ex_ X d 11 54 [v0, v1, v2] [.ref a] h Q = (gk_ h a 5 [(3, 0)] = true ∧ ex_ X d 11 57 [v0, v1, v2] [gv_ h a 5] h Q) := R_getf (show mx_at 11 54 = some (.getfield 21, 3) by decide +kernel) (mx_fdo ow11 fd30021)
set_option maxRecDepth 20000 in
theorem i11_57 : ex_ X d 11 57 [v0, v1, .int x] [w0] h Q = ex_ X d 11 58 [v0, v1, .int x] [.int x, w0] h Q := ex_nx (show mx_at 11 57 = some (.iload_n 2, 1) by decide +kernel) rfl
set_option maxRecDepth 20000 in
theorem i11_58 : ex_ X d 11 58 [v0, .ref a, v2] [w0, w1] h Q = ex_ X d 11 59 [v0, .ref a, v2] [.ref a, w0, w1] h Q := ex_nx (show mx_at 11 58 = some (.aload_n 1, 1) by decide +kernel) rfl
set_option maxRecDepth 20000 in
theorem i11_58n : ex_ X d 11 58 [v0, .null, v2] [w0, w1] h Q = ex_ X d 11 59 [v0, .null, v2] [.null, w0, w1] h Q := ex_nx (show mx_at 11 58 = some (.aload_n 1, 1) by decide +kernel) rfl
set_option maxRecDepth 20000 in
theorem i11_59 : ex_ X d 11 59 [v0, v1, v2] [.ref a, w0, w1] h Q = (gk_ h a 5 [(3, 0)] = true ∧ ex_ X d 11 62 [v0, v1, v2] [gv_ h a 5, w0, w1] h Q) := R_getf (show mx_at 11 59 = some (.getfield 21, 3) by decide +kernel) (mx_fdo ow11 fd30021)
set_option maxRecDepth 20000 in
theorem i11_62 : ex_ X d 11 62 [v0, v1, .int x] [w0, w1, w2] h Q = ex_ X d 11 63 [v0, v1, .int x] [.int x, w0, w1, w2] h Q := ex_nx (show mx_at 11 62 = some (.iload_n 2, 1) by decide +kernel) rfl
set_option maxRecDepth 20000 in
theorem i11_63 : ex_ X d 11 63 [v0, v1, v2] [.int i, .ref a, w0, w1] h Q = (rk_ h a i = true ∧ ex_ X d 11 64 [v0, v1, v2] [mx_vr (ra_ h a i), w0, w1] h Q) := R_aald (show mx_at 11 63 = some (.aaload, 1) by decide +kernel)
set_option maxRecDepth 20000 in
theorem i11_64 : ex_ X d 11 64 [v0, v1, v2] [.ref b, .int i, .ref a] h Q = (rx_ h a i b = true ∧ ex_ X d 11 65 [v0, v1, v2] [] (rs_ h a i (some b)) Q) := R_aast (show mx_at 11 64 = some (.aastore, 1) by decide +kernel)
set_option maxRecDepth 20000 in
theorem i11_64n : ex_ X d 11 64 [v0, v1, v2] [.null, .int i, .ref a] h Q = (rk_ h a i = true ∧ ex_ X d 11 65 [v0, v1, v2] [] (rs_ h a i none) Q) := R_aastN (show mx_at 11 64 = some (.aastore, 1) by decide +kernel)
set_option maxRecDepth 20000 in
theorem i11_65 : ex_ X d 11 65 [v0, v1, .int x] [] h Q = (mx_nl v1 = true ∧ ex_ X d 11 68 [v0, v1, .int (x + 1)] [] h Q) := R_iinc (n := 2) (c := 1) (show mx_at 11 65 = some (.iinc 2 1, 3) by decide +kernel) rfl
set_option maxRecDepth 20000 in
theorem i11_68 : ex_ X d 11 68 [v0, v1, v2] [] h Q = ex_ X d 11 48 [v0, v1, v2] [] h Q := R_to (show mx_at 11 68 = some (.goto (-20), 3) by decide +kernel) rfl rfl
set_option maxRecDepth 20000 in
theorem i11_71 : ex_ X d 11 71 [.ref a, v1, v2] [] h Q = ex_ X d 11 72 [.ref a, v1, v2] [.ref a] h Q := ex_nx (show mx_at 11 71 = some (.aload_n 0, 1) by decide +kernel) rfl
set_option maxRecDepth 20000 in
theorem i11_71n : ex_ X d 11 71 [.null, v1, v2] [] h Q = ex_ X d 11 72 [.null, v1, v2] [.null] h Q := ex_nx (show mx_at 11 71 = some (.aload_n 0, 1) by decide +kernel) rfl
set_option maxRecDepth 20000 in
theorem i11_72 : ex_ X d 11 72 [v0, .ref a, v2] [w0] h Q = ex_ X d 11 73 [v0, .ref a, v2] [.ref a, w0] h Q := ex_nx (show mx_at 11 72 = some (.aload_n 1, 1) by decide +kernel) rfl
set_option maxRecDepth 20000 in
theorem i11_72n : ex_ X d 11 72 [v0, .null, v2] [w0] h Q = ex_ X d 11 73 [v0, .null, v2] [.null, w0] h Q := ex_nx (show mx_at 11 72 = some (.aload_n 1, 1) by decide +kernel) rfl
set_option maxRecDepth 20000 in
theorem i11_73 : ex_ X d 11 73 [v0, v1, v2] [.ref a, w0] h Q = (gk_ h a 7 [(3, 0)] = true ∧ ex_ X d 11 76 [v0, v1, v2] [gv_ h a 7, w0] h Q) := R_getf (show mx_at 11 73 = some (.getfield 71, 3) by decide +kernel) (mx_fdo ow11 fd30071)
set_option maxRecDepth 20000 in
theorem i11_76 : ex_ X d 11 76 [v0, v1, v2] [w, .ref a] h Q = (pk_ 11 h a 7 w [(3, 0)] = true ∧ ex_ X d 11 79 [v0, v1, v2] [] (pf_ h a 7 w) Q) := R_putf (show mx_at 11 76 = some (.putfield 71, 3) by decide +kernel) (mx_fdo ow11 fd30071)
set_option maxRecDepth 20000 in
theorem i11_79 : ex_ X d 11 79 [v0, v1, v2] [] h Q = ex_ X d 11 80 [v0, v1, v2] [.int 0] h Q := R_iconst (show mx_at 11 79 = some (.iconst 0, 1) by decide +kernel) (by decide)
set_option maxRecDepth 20000 in
theorem i11_80 : ex_ X d 11 80 [v0, v1, v2] [.int x] h Q = (mx_nl v1 = true ∧ ex_ X d 11 81 [v0, v1, .int x] [] h Q) := mx_t1 (R_st (ok := mx_isI) (n := 2) (w := 1) (show mx_at 11 80 = some (.istore_n 2, 1) by decide +kernel) (fun _ _ => rfl) (Nat.le_of_ble_eq_true rfl)) rfl
set_option maxRecDepth 20000 in
theorem i11_81 : ex_ X d 11 81 [v0, v1, .int x] [] h Q = ex_ X d 11 82 [v0, v1, .int x] [.int x] h Q := ex_nx (show mx_at 11 81 = some (.iload_n 2, 1) by decide +kernel) rfl
set_option maxRecDepth 20000 in
theorem i11_82 : ex_ X d 11 82 [.ref a, v1, v2] [w0] h Q = ex_ X d 11 83 [.ref a, v1, v2] [.ref a, w0] h Q := ex_nx (show mx_at 11 82 = some (.aload_n 0, 1) by decide +kernel) rfl
set_option maxRecDepth 20000 in
theorem i11_82n : ex_ X d 11 82 [.null, v1, v2] [w0] h Q = ex_ X d 11 83 [.null, v1, v2] [.null, w0] h Q := ex_nx (show mx_at 11 82 = some (.aload_n 0, 1) by decide +kernel) rfl
set_option maxRecDepth 20000 in
theorem i11_83 : ex_ X d 11 83 [v0, v1, v2] [.ref a, w0] h Q = (gk_ h a 7 [(3, 0)] = true ∧ ex_ X d 11 86 [v0, v1, v2] [gv_ h a 7, w0] h Q) := R_getf (show mx_at 11 83 = some (.getfield 71, 3) by decide +kernel) (mx_fdo ow11 fd30071)
set_option maxRecDepth 20000 in
theorem i11_86 : ex_ X d 11 86 [v0, v1, v2] [.int y, .int x] h Q = if y ≤ x then ex_ X d 11 143 [v0, v1, v2] [] h Q else ex_ X d 11 89 [v0, v1, v2] [] h Q := (R_br (show mx_at 11 86 = some (.if_icmp .ge 57, 3) by decide +kernel) rfl rfl).trans mx_ite
set_option maxRecDepth 20000 in
theorem i11_89 : ex_ X d 11 89 [.ref a, v1, v2] [] h Q = ex_ X d 11 90 [.ref a, v1, v2] [.ref a] h Q := ex_nx (show mx_at 11 89 = some (.aload_n 0, 1) by decide +kernel) rfl
set_option maxRecDepth 20000 in
theorem i11_89n : ex_ X d 11 89 [.null, v1, v2] [] h Q = ex_ X d 11 90 [.null, v1, v2] [.null] h Q := ex_nx (show mx_at 11 89 = some (.aload_n 0, 1) by decide +kernel) rfl
set_option maxRecDepth 20000 in
theorem i11_90 : ex_ X d 11 90 [v0, v1, v2] [.ref a] h Q = (gk_ h a 6 [(3, 0)] = true ∧ ex_ X d 11 93 [v0, v1, v2] [gv_ h a 6] h Q) := R_getf (show mx_at 11 90 = some (.getfield 27, 3) by decide +kernel) (mx_fdo ow11 fd30027)
set_option maxRecDepth 20000 in
theorem i11_93 : ex_ X d 11 93 [v0, v1, .int x] [w0] h Q = ex_ X d 11 94 [v0, v1, .int x] [.int x, w0] h Q := ex_nx (show mx_at 11 93 = some (.iload_n 2, 1) by decide +kernel) rfl
set_option maxRecDepth 20000 in
theorem i11_94 : ex_ X d 11 94 [v0, .ref a, v2] [w0, w1] h Q = ex_ X d 11 95 [v0, .ref a, v2] [.ref a, w0, w1] h Q := ex_nx (show mx_at 11 94 = some (.aload_n 1, 1) by decide +kernel) rfl
set_option maxRecDepth 20000 in
theorem i11_94n : ex_ X d 11 94 [v0, .null, v2] [w0, w1] h Q = ex_ X d 11 95 [v0, .null, v2] [.null, w0, w1] h Q := ex_nx (show mx_at 11 94 = some (.aload_n 1, 1) by decide +kernel) rfl
set_option maxRecDepth 20000 in
theorem i11_95 : ex_ X d 11 95 [v0, v1, v2] [.ref a, w0, w1] h Q = (gk_ h a 6 [(3, 0)] = true ∧ ex_ X d 11 98 [v0, v1, v2] [gv_ h a 6, w0, w1] h Q) := R_getf (show mx_at 11 95 = some (.getfield 27, 3) by decide +kernel) (mx_fdo ow11 fd30027)
set_option maxRecDepth 20000 in
theorem i11_98 : ex_ X d 11 98 [v0, v1, .int x] [w0, w1, w2] h Q = ex_ X d 11 99 [v0, v1, .int x] [.int x, w0, w1, w2] h Q := ex_nx (show mx_at 11 98 = some (.iload_n 2, 1) by decide +kernel) rfl
set_option maxRecDepth 20000 in
theorem i11_99 : ex_ X d 11 99 [v0, v1, v2] [.int i, .ref a, w0, w1] h Q = (rk_ h a i = true ∧ ex_ X d 11 100 [v0, v1, v2] [mx_vr (ra_ h a i), w0, w1] h Q) := R_aald (show mx_at 11 99 = some (.aaload, 1) by decide +kernel)
set_option maxRecDepth 20000 in
theorem i11_100 : ex_ X d 11 100 [v0, v1, v2] [.ref b, .int i, .ref a] h Q = (rx_ h a i b = true ∧ ex_ X d 11 101 [v0, v1, v2] [] (rs_ h a i (some b)) Q) := R_aast (show mx_at 11 100 = some (.aastore, 1) by decide +kernel)
set_option maxRecDepth 20000 in
theorem i11_100n : ex_ X d 11 100 [v0, v1, v2] [.null, .int i, .ref a] h Q = (rk_ h a i = true ∧ ex_ X d 11 101 [v0, v1, v2] [] (rs_ h a i none) Q) := R_aastN (show mx_at 11 100 = some (.aastore, 1) by decide +kernel)
set_option maxRecDepth 20000 in
theorem i11_101 : ex_ X d 11 101 [.ref a, v1, v2] [] h Q = ex_ X d 11 102 [.ref a, v1, v2] [.ref a] h Q := ex_nx (show mx_at 11 101 = some (.aload_n 0, 1) by decide +kernel) rfl
set_option maxRecDepth 20000 in
theorem i11_101n : ex_ X d 11 101 [.null, v1, v2] [] h Q = ex_ X d 11 102 [.null, v1, v2] [.null] h Q := ex_nx (show mx_at 11 101 = some (.aload_n 0, 1) by decide +kernel) rfl
set_option maxRecDepth 20000 in
theorem i11_102 : ex_ X d 11 102 [v0, v1, v2] [.ref a] h Q = (gk_ h a 8 [(3, 0)] = true ∧ ex_ X d 11 105 [v0, v1, v2] [gv_ h a 8] h Q) := R_getf (show mx_at 11 102 = some (.getfield 31, 3) by decide +kernel) (mx_fdo ow11 fd30031)
set_option maxRecDepth 20000 in
theorem i11_105 : ex_ X d 11 105 [v0, v1, .int x] [w0] h Q = ex_ X d 11 106 [v0, v1, .int x] [.int x, w0] h Q := ex_nx (show mx_at 11 105 = some (.iload_n 2, 1) by decide +kernel) rfl
set_option maxRecDepth 20000 in
theorem i11_106 : ex_ X d 11 106 [v0, .ref a, v2] [w0, w1] h Q = ex_ X d 11 107 [v0, .ref a, v2] [.ref a, w0, w1] h Q := ex_nx (show mx_at 11 106 = some (.aload_n 1, 1) by decide +kernel) rfl
set_option maxRecDepth 20000 in
theorem i11_106n : ex_ X d 11 106 [v0, .null, v2] [w0, w1] h Q = ex_ X d 11 107 [v0, .null, v2] [.null, w0, w1] h Q := ex_nx (show mx_at 11 106 = some (.aload_n 1, 1) by decide +kernel) rfl
set_option maxRecDepth 20000 in
theorem i11_107 : ex_ X d 11 107 [v0, v1, v2] [.ref a, w0, w1] h Q = (gk_ h a 8 [(3, 0)] = true ∧ ex_ X d 11 110 [v0, v1, v2] [gv_ h a 8, w0, w1] h Q) := R_getf (show mx_at 11 107 = some (.getfield 31, 3) by decide +kernel) (mx_fdo ow11 fd30031)
set_option maxRecDepth 20000 in
theorem i11_110 : ex_ X d 11 110 [v0, v1, .int x] [w0, w1, w2] h Q = ex_ X d 11 111 [v0, v1, .int x] [.int x, w0, w1, w2] h Q := ex_nx (show mx_at 11 110 = some (.iload_n 2, 1) by decide +kernel) rfl
set_option maxRecDepth 20000 in
theorem i11_111 : ex_ X d 11 111 [v0, v1, v2] [.int i, .ref a, w0, w1] h Q = (ik_ h a i = true ∧ ex_ X d 11 112 [v0, v1, v2] [.int (ia_ h a i), w0, w1] h Q) := R_iald (show mx_at 11 111 = some (.iaload, 1) by decide +kernel)
set_option maxRecDepth 20000 in
theorem i11_112 : ex_ X d 11 112 [v0, v1, v2] [.int x, .int i, .ref a] h Q = (ik_ h a i = true ∧ ex_ X d 11 113 [v0, v1, v2] [] (is_ h a i x) Q) := R_iast (show mx_at 11 112 = some (.iastore, 1) by decide +kernel)
set_option maxRecDepth 20000 in
theorem i11_113 : ex_ X d 11 113 [.ref a, v1, v2] [] h Q = ex_ X d 11 114 [.ref a, v1, v2] [.ref a] h Q := ex_nx (show mx_at 11 113 = some (.aload_n 0, 1) by decide +kernel) rfl
set_option maxRecDepth 20000 in
theorem i11_113n : ex_ X d 11 113 [.null, v1, v2] [] h Q = ex_ X d 11 114 [.null, v1, v2] [.null] h Q := ex_nx (show mx_at 11 113 = some (.aload_n 0, 1) by decide +kernel) rfl
set_option maxRecDepth 20000 in
theorem i11_114 : ex_ X d 11 114 [v0, v1, v2] [.ref a] h Q = (gk_ h a 9 [(3, 0)] = true ∧ ex_ X d 11 117 [v0, v1, v2] [gv_ h a 9] h Q) := R_getf (show mx_at 11 114 = some (.getfield 34, 3) by decide +kernel) (mx_fdo ow11 fd30034)
set_option maxRecDepth 20000 in
theorem i11_117 : ex_ X d 11 117 [v0, v1, .int x] [w0] h Q = ex_ X d 11 118 [v0, v1, .int x] [.int x, w0] h Q := ex_nx (show mx_at 11 117 = some (.iload_n 2, 1) by decide +kernel) rfl
set_option maxRecDepth 20000 in
theorem i11_118 : ex_ X d 11 118 [v0, .ref a, v2] [w0, w1] h Q = ex_ X d 11 119 [v0, .ref a, v2] [.ref a, w0, w1] h Q := ex_nx (show mx_at 11 118 = some (.aload_n 1, 1) by decide +kernel) rfl
set_option maxRecDepth 20000 in
theorem i11_118n : ex_ X d 11 118 [v0, .null, v2] [w0, w1] h Q = ex_ X d 11 119 [v0, .null, v2] [.null, w0, w1] h Q := ex_nx (show mx_at 11 118 = some (.aload_n 1, 1) by decide +kernel) rfl
set_option maxRecDepth 20000 in
theorem i11_119 : ex_ X d 11 119 [v0, v1, v2] [.ref a, w0, w1] h Q = (gk_ h a 9 [(3, 0)] = true ∧ ex_ X d 11 122 [v0, v1, v2] [gv_ h a 9, w0, w1] h Q) := R_getf (show mx_at 11 119 = some (.getfield 34, 3) by decide +kernel) (mx_fdo ow11 fd30034)
set_option maxRecDepth 20000 in
theorem i11_122 : ex_ X d 11 122 [v0, v1, .int x] [w0, w1, w2] h Q = ex_ X d 11 123 [v0, v1, .int x] [.int x, w0, w1, w2] h Q := ex_nx (show mx_at 11 122 = some (.iload_n 2, 1) by decide +kernel) rfl
set_option maxRecDepth 20000 in
theorem i11_123 : ex_ X d 11 123 [v0, v1, v2] [.int i, .ref a, w0, w1] h Q = (ik_ h a i = true ∧ ex_ X d 11 124 [v0, v1, v2] [.int (ia_ h a i), w0, w1] h Q) := R_iald (show mx_at 11 123 = some (.iaload, 1) by decide +kernel)
set_option maxRecDepth 20000 in
theorem i11_124 : ex_ X d 11 124 [v0, v1, v2] [.int x, .int i, .ref a] h Q = (ik_ h a i = true ∧ ex_ X d 11 125 [v0, v1, v2] [] (is_ h a i x) Q) := R_iast (show mx_at 11 124 = some (.iastore, 1) by decide +kernel)
set_option maxRecDepth 20000 in
theorem i11_125 : ex_ X d 11 125 [.ref a, v1, v2] [] h Q = ex_ X d 11 126 [.ref a, v1, v2] [.ref a] h Q := ex_nx (show mx_at 11 125 = some (.aload_n 0, 1) by decide +kernel) rfl
set_option maxRecDepth 20000 in
theorem i11_125n : ex_ X d 11 125 [.null, v1, v2] [] h Q = ex_ X d 11 126 [.null, v1, v2] [.null] h Q := ex_nx (show mx_at 11 125 = some (.aload_n 0, 1) by decide +kernel) rfl
set_option maxRecDepth 20000 in
theorem i11_126 : ex_ X d 11 126 [v0, v1, v2] [.ref a] h Q = (gk_ h a 10 [(3, 0)] = true ∧ ex_ X d 11 129 [v0, v1, v2] [gv_ h a 10] h Q) := R_getf (show mx_at 11 126 = some (.getfield 37, 3) by decide +kernel) (mx_fdo ow11 fd30037)
set_option maxRecDepth 20000 in
theorem i11_129 : ex_ X d 11 129 [v0, v1, .int x] [w0] h Q = ex_ X d 11 130 [v0, v1, .int x] [.int x, w0] h Q := ex_nx (show mx_at 11 129 = some (.iload_n 2, 1) by decide +kernel) rfl
set_option maxRecDepth 20000 in
theorem i11_130 : ex_ X d 11 130 [v0, .ref a, v2] [w0, w1] h Q = ex_ X d 11 131 [v0, .ref a, v2] [.ref a, w0, w1] h Q := ex_nx (show mx_at 11 130 = some (.aload_n 1, 1) by decide +kernel) rfl
set_option maxRecDepth 20000 in
theorem i11_130n : ex_ X d 11 130 [v0, .null, v2] [w0, w1] h Q = ex_ X d 11 131 [v0, .null, v2] [.null, w0, w1] h Q := ex_nx (show mx_at 11 130 = some (.aload_n 1, 1) by decide +kernel) rfl
set_option maxRecDepth 20000 in
theorem i11_131 : ex_ X d 11 131 [v0, v1, v2] [.ref a, w0, w1] h Q = (gk_ h a 10 [(3, 0)] = true ∧ ex_ X d 11 134 [v0, v1, v2] [gv_ h a 10, w0, w1] h Q) := R_getf (show mx_at 11 131 = some (.getfield 37, 3) by decide +kernel) (mx_fdo ow11 fd30037)
set_option maxRecDepth 20000 in
theorem i11_134 : ex_ X d 11 134 [v0, v1, .int x] [w0, w1, w2] h Q = ex_ X d 11 135 [v0, v1, .int x] [.int x, w0, w1, w2] h Q := ex_nx (show mx_at 11 134 = some (.iload_n 2, 1) by decide +kernel) rfl
set_option maxRecDepth 20000 in
theorem i11_135 : ex_ X d 11 135 [v0, v1, v2] [.int i, .ref a, w0, w1] h Q = (ik_ h a i = true ∧ ex_ X d 11 136 [v0, v1, v2] [.int (ia_ h a i), w0, w1] h Q) := R_iald (show mx_at 11 135 = some (.iaload, 1) by decide +kernel)
set_option maxRecDepth 20000 in
theorem i11_136 : ex_ X d 11 136 [v0, v1, v2] [.int x, .int i, .ref a] h Q = (ik_ h a i = true ∧ ex_ X d 11 137 [v0, v1, v2] [] (is_ h a i x) Q) := R_iast (show mx_at 11 136 = some (.iastore, 1) by decide +kernel)
set_option maxRecDepth 20000 in
theorem i11_137 : ex_ X d 11 137 [v0, v1, .int x] [] h Q = (mx_nl v1 = true ∧ ex_ X d 11 140 [v0, v1, .int (x + 1)] [] h Q) := R_iinc (n := 2) (c := 1) (show mx_at 11 137 = some (.iinc 2 1, 3) by decide +kernel) rfl
set_option maxRecDepth 20000 in
theorem i11_140 : ex_ X d 11 140 [v0, v1, v2] [] h Q = ex_ X d 11 81 [v0, v1, v2] [] h Q := R_to (show mx_at 11 140 = some (.goto (-59), 3) by decide +kernel) rfl rfl
set_option maxRecDepth 20000 in
theorem i11_143 : ex_ X d 11 143 [.ref a, v1, v2] [] h Q = ex_ X d 11 144 [.ref a, v1, v2] [.ref a] h Q := ex_nx (show mx_at 11 143 = some (.aload_n 0, 1) by decide +kernel) rfl
set_option maxRecDepth 20000 in
theorem i11_143n : ex_ X d 11 143 [.null, v1, v2] [] h Q = ex_ X d 11 144 [.null, v1, v2] [.null] h Q := ex_nx (show mx_at 11 143 = some (.aload_n 0, 1) by decide +kernel) rfl
set_option maxRecDepth 20000 in
theorem i11_144 : ex_ X d 11 144 [v0, .ref a, v2] [w0] h Q = ex_ X d 11 145 [v0, .ref a, v2] [.ref a, w0] h Q := ex_nx (show mx_at 11 144 = some (.aload_n 1, 1) by decide +kernel) rfl
set_option maxRecDepth 20000 in
theorem i11_144n : ex_ X d 11 144 [v0, .null, v2] [w0] h Q = ex_ X d 11 145 [v0, .null, v2] [.null, w0] h Q := ex_nx (show mx_at 11 144 = some (.aload_n 1, 1) by decide +kernel) rfl
set_option maxRecDepth 20000 in
theorem i11_145 : ex_ X d 11 145 [v0, v1, v2] [.ref a, w0] h Q = (gk_ h a 12 [(3, 0)] = true ∧ ex_ X d 11 148 [v0, v1, v2] [gv_ h a 12, w0] h Q) := R_getf (show mx_at 11 145 = some (.getfield 74, 3) by decide +kernel) (mx_fdo ow11 fd30074)
set_option maxRecDepth 20000 in
theorem i11_148 : ex_ X d 11 148 [v0, v1, v2] [w, .ref a] h Q = (pk_ 11 h a 12 w [(3, 0)] = true ∧ ex_ X d 11 151 [v0, v1, v2] [] (pf_ h a 12 w) Q) := R_putf (show mx_at 11 148 = some (.putfield 74, 3) by decide +kernel) (mx_fdo ow11 fd30074)
set_option maxRecDepth 20000 in
theorem i11_151 : ex_ X d 11 151 [v0, v1, v2] [] h Q = ex_ X d 11 152 [v0, v1, v2] [.int 0] h Q := R_iconst (show mx_at 11 151 = some (.iconst 0, 1) by decide +kernel) (by decide)
set_option maxRecDepth 20000 in
theorem i11_152 : ex_ X d 11 152 [v0, v1, v2] [.int x] h Q = (mx_nl v1 = true ∧ ex_ X d 11 153 [v0, v1, .int x] [] h Q) := mx_t1 (R_st (ok := mx_isI) (n := 2) (w := 1) (show mx_at 11 152 = some (.istore_n 2, 1) by decide +kernel) (fun _ _ => rfl) (Nat.le_of_ble_eq_true rfl)) rfl
set_option maxRecDepth 20000 in
theorem i11_153 : ex_ X d 11 153 [v0, v1, .int x] [] h Q = ex_ X d 11 154 [v0, v1, .int x] [.int x] h Q := ex_nx (show mx_at 11 153 = some (.iload_n 2, 1) by decide +kernel) rfl
set_option maxRecDepth 20000 in
theorem i11_154 : ex_ X d 11 154 [.ref a, v1, v2] [w0] h Q = ex_ X d 11 155 [.ref a, v1, v2] [.ref a, w0] h Q := ex_nx (show mx_at 11 154 = some (.aload_n 0, 1) by decide +kernel) rfl
set_option maxRecDepth 20000 in
theorem i11_154n : ex_ X d 11 154 [.null, v1, v2] [w0] h Q = ex_ X d 11 155 [.null, v1, v2] [.null, w0] h Q := ex_nx (show mx_at 11 154 = some (.aload_n 0, 1) by decide +kernel) rfl
set_option maxRecDepth 20000 in
theorem i11_155 : ex_ X d 11 155 [v0, v1, v2] [.ref a, w0] h Q = (gk_ h a 12 [(3, 0)] = true ∧ ex_ X d 11 158 [v0, v1, v2] [gv_ h a 12, w0] h Q) := R_getf (show mx_at 11 155 = some (.getfield 74, 3) by decide +kernel) (mx_fdo ow11 fd30074)
set_option maxRecDepth 20000 in
theorem i11_158 : ex_ X d 11 158 [v0, v1, v2] [.int y, .int x] h Q = if y ≤ x then ex_ X d 11 215 [v0, v1, v2] [] h Q else ex_ X d 11 161 [v0, v1, v2] [] h Q := (R_br (show mx_at 11 158 = some (.if_icmp .ge 57, 3) by decide +kernel) rfl rfl).trans mx_ite
set_option maxRecDepth 20000 in
theorem i11_161 : ex_ X d 11 161 [.ref a, v1, v2] [] h Q = ex_ X d 11 162 [.ref a, v1, v2] [.ref a] h Q := ex_nx (show mx_at 11 161 = some (.aload_n 0, 1) by decide +kernel) rfl
set_option maxRecDepth 20000 in
theorem i11_161n : ex_ X d 11 161 [.null, v1, v2] [] h Q = ex_ X d 11 162 [.null, v1, v2] [.null] h Q := ex_nx (show mx_at 11 161 = some (.aload_n 0, 1) by decide +kernel) rfl
set_option maxRecDepth 20000 in
theorem i11_162 : ex_ X d 11 162 [v0, v1, v2] [.ref a] h Q = (gk_ h a 13 [(3, 0)] = true ∧ ex_ X d 11 165 [v0, v1, v2] [gv_ h a 13] h Q) := R_getf (show mx_at 11 162 = some (.getfield 43, 3) by decide +kernel) (mx_fdo ow11 fd30043)
set_option maxRecDepth 20000 in
theorem i11_165 : ex_ X d 11 165 [v0, v1, .int x] [w0] h Q = ex_ X d 11 166 [v0, v1, .int x] [.int x, w0] h Q := ex_nx (show mx_at 11 165 = some (.iload_n 2, 1) by decide +kernel) rfl
set_option maxRecDepth 20000 in
theorem i11_166 : ex_ X d 11 166 [v0, .ref a, v2] [w0, w1] h Q = ex_ X d 11 167 [v0, .ref a, v2] [.ref a, w0, w1] h Q := ex_nx (show mx_at 11 166 = some (.aload_n 1, 1) by decide +kernel) rfl
set_option maxRecDepth 20000 in
theorem i11_166n : ex_ X d 11 166 [v0, .null, v2] [w0, w1] h Q = ex_ X d 11 167 [v0, .null, v2] [.null, w0, w1] h Q := ex_nx (show mx_at 11 166 = some (.aload_n 1, 1) by decide +kernel) rfl
set_option maxRecDepth 20000 in
theorem i11_167 : ex_ X d 11 167 [v0, v1, v2] [.ref a, w0, w1] h Q = (gk_ h a 13 [(3, 0)] = true ∧ ex_ X d 11 170 [v0, v1, v2] [gv_ h a 13, w0, w1] h Q) := R_getf (show mx_at 11 167 = some (.getfield 43, 3) by decide +kernel) (mx_fdo ow11 fd30043)
set_option maxRecDepth 20000 in
theorem i11_170 : ex_ X d 11 170 [v0, v1, .int x] [w0, w1, w2] h Q = ex_ X d 11 171 [v0, v1, .int x] [.int x, w0, w1, w2] h Q := ex_nx (show mx_at 11 170 = some (.iload_n 2, 1) by decide +kernel) rfl
set_option maxRecDepth 20000 in
theorem i11_171 : ex_ X d 11 171 [v0, v1, v2] [.int i, .ref a, w0, w1] h Q = (ik_ h a i = true ∧ ex_ X d 11 172 [v0, v1, v2] [.int (ia_ h a i), w0, w1] h Q) := R_iald (show mx_at 11 171 = some (.iaload, 1) by decide +kernel)
set_option maxRecDepth 20000 in
theorem i11_172 : ex_ X d 11 172 [v0, v1, v2] [.int x, .int i, .ref a] h Q = (ik_ h a i = true ∧ ex_ X d 11 173 [v0, v1, v2] [] (is_ h a i x) Q) := R_iast (show mx_at 11 172 = some (.iastore, 1) by decide +kernel)
set_option maxRecDepth 20000 in
theorem i11_173 : ex_ X d 11 173 [.ref a, v1, v2] [] h Q = ex_ X d 11 174 [.ref a, v1, v2] [.ref a] h Q := ex_nx (show mx_at 11 173 = some (.aload_n 0, 1) by decide +kernel) rfl
set_option maxRecDepth 20000 in
theorem i11_173n : ex_ X d 11 173 [.null, v1, v2] [] h Q = ex_ X d 11 174 [.null, v1, v2] [.null] h Q := ex_nx (show mx_at 11 173 = some (.aload_n 0, 1) by decide +kernel) rfl
set_option maxRecDepth 20000 in
theorem i11_174 : ex_ X d 11 174 [v0, v1, v2] [.ref a] h Q = (gk_ h a 14 [(3, 0)] = true ∧ ex_ X d 11 177 [v0, v1, v2] [gv_ h a 14] h Q) := R_getf (show mx_at 11 174 = some (.getfield 46, 3) by decide +kernel) (mx_fdo ow11 fd30046)
set_option maxRecDepth 20000 in
theorem i11_177 : ex_ X d 11 177 [v0, v1, .int x] [w0] h Q = ex_ X d 11 178 [v0, v1, .int x] [.int x, w0] h Q := ex_nx (show mx_at 11 177 = some (.iload_n 2, 1) by decide +kernel) rfl
set_option maxRecDepth 20000 in
theorem i11_178 : ex_ X d 11 178 [v0, .ref a, v2] [w0, w1] h Q = ex_ X d 11 179 [v0, .ref a, v2] [.ref a, w0, w1] h Q := ex_nx (show mx_at 11 178 = some (.aload_n 1, 1) by decide +kernel) rfl
set_option maxRecDepth 20000 in
theorem i11_178n : ex_ X d 11 178 [v0, .null, v2] [w0, w1] h Q = ex_ X d 11 179 [v0, .null, v2] [.null, w0, w1] h Q := ex_nx (show mx_at 11 178 = some (.aload_n 1, 1) by decide +kernel) rfl
set_option maxRecDepth 20000 in
theorem i11_179 : ex_ X d 11 179 [v0, v1, v2] [.ref a, w0, w1] h Q = (gk_ h a 14 [(3, 0)] = true ∧ ex_ X d 11 182 [v0, v1, v2] [gv_ h a 14, w0, w1] h Q) := R_getf (show mx_at 11 179 = some (.getfield 46, 3) by decide +kernel) (mx_fdo ow11 fd30046)
set_option maxRecDepth 20000 in
theorem i11_182 : ex_ X d 11 182 [v0, v1, .int x] [w0, w1, w2] h Q = ex_ X d 11 183 [v0, v1, .int x] [.int x, w0, w1, w2] h Q := ex_nx (show mx_at 11 182 = some (.iload_n 2, 1) by decide +kernel) rfl
set_option maxRecDepth 20000 in
theorem i11_183 : ex_ X d 11 183 [v0, v1, v2] [.int i, .ref a, w0, w1] h Q = (ik_ h a i = true ∧ ex_ X d 11 184 [v0, v1, v2] [.int (ia_ h a i), w0, w1] h Q) := R_iald (show mx_at 11 183 = some (.iaload, 1) by decide +kernel)
set_option maxRecDepth 20000 in
theorem i11_184 : ex_ X d 11 184 [v0, v1, v2] [.int x, .int i, .ref a] h Q = (ik_ h a i = true ∧ ex_ X d 11 185 [v0, v1, v2] [] (is_ h a i x) Q) := R_iast (show mx_at 11 184 = some (.iastore, 1) by decide +kernel)
set_option maxRecDepth 20000 in
theorem i11_185 : ex_ X d 11 185 [.ref a, v1, v2] [] h Q = ex_ X d 11 186 [.ref a, v1, v2] [.ref a] h Q := ex_nx (show mx_at 11 185 = some (.aload_n 0, 1) by decide +kernel) rfl
set_option maxRecDepth 20000 in
theorem i11_185n : ex_ X d 11 185 [.null, v1, v2] [] h Q = ex_ X d 11 186 [.null, v1, v2] [.null] h Q := ex_nx (show mx_at 11 185 = some (.aload_n 0, 1) by decide +kernel) rfl
set_option maxRecDepth 20000 in
theorem i11_186 : ex_ X d 11 186 [v0, v1, v2] [.ref a] h Q = (gk_ h a 15 [(3, 0)] = true ∧ ex_ X d 11 189 [v0, v1, v2] [gv_ h a 15] h Q) := R_getf (show mx_at 11 186 = some (.getfield 49, 3) by decide +kernel) (mx_fdo ow11 fd30049)
set_option maxRecDepth 20000 in
theorem i11_189 : ex_ X d 11 189 [v0, v1, .int x] [w0] h Q = ex_ X d 11 190 [v0, v1, .int x] [.int x, w0] h Q := ex_nx (show mx_at 11 189 = some (.iload_n 2, 1) by decide +kernel) rfl
set_option maxRecDepth 20000 in
theorem i11_190 : ex_ X d 11 190 [v0, .ref a, v2] [w0, w1] h Q = ex_ X d 11 191 [v0, .ref a, v2] [.ref a, w0, w1] h Q := ex_nx (show mx_at 11 190 = some (.aload_n 1, 1) by decide +kernel) rfl
set_option maxRecDepth 20000 in
theorem i11_190n : ex_ X d 11 190 [v0, .null, v2] [w0, w1] h Q = ex_ X d 11 191 [v0, .null, v2] [.null, w0, w1] h Q := ex_nx (show mx_at 11 190 = some (.aload_n 1, 1) by decide +kernel) rfl
set_option maxRecDepth 20000 in
theorem i11_191 : ex_ X d 11 191 [v0, v1, v2] [.ref a, w0, w1] h Q = (gk_ h a 15 [(3, 0)] = true ∧ ex_ X d 11 194 [v0, v1, v2] [gv_ h a 15, w0, w1] h Q) := R_getf (show mx_at 11 191 = some (.getfield 49, 3) by decide +kernel) (mx_fdo ow11 fd30049)
set_option maxRecDepth 20000 in
theorem i11_194 : ex_ X d 11 194 [v0, v1, .int x] [w0, w1, w2] h Q = ex_ X d 11 195 [v0, v1, .int x] [.int x, w0, w1, w2] h Q := ex_nx (show mx_at 11 194 = some (.iload_n 2, 1) by decide +kernel) rfl
set_option maxRecDepth 20000 in
theorem i11_195 : ex_ X d 11 195 [v0, v1, v2] [.int i, .ref a, w0, w1] h Q = (ik_ h a i = true ∧ ex_ X d 11 196 [v0, v1, v2] [.int (ia_ h a i), w0, w1] h Q) := R_iald (show mx_at 11 195 = some (.iaload, 1) by decide +kernel)
set_option maxRecDepth 20000 in
theorem i11_196 : ex_ X d 11 196 [v0, v1, v2] [.int x, .int i, .ref a] h Q = (ik_ h a i = true ∧ ex_ X d 11 197 [v0, v1, v2] [] (is_ h a i x) Q) := R_iast (show mx_at 11 196 = some (.iastore, 1) by decide +kernel)
set_option maxRecDepth 20000 in
theorem i11_197 : ex_ X d 11 197 [.ref a, v1, v2] [] h Q = ex_ X d 11 198 [.ref a, v1, v2] [.ref a] h Q := ex_nx (show mx_at 11 197 = some (.aload_n 0, 1) by decide +kernel) rfl
set_option maxRecDepth 20000 in
theorem i11_197n : ex_ X d 11 197 [.null, v1, v2] [] h Q = ex_ X d 11 198 [.null, v1, v2] [.null] h Q := ex_nx (show mx_at 11 197 = some (.aload_n 0, 1) by decide +kernel) rfl
set_option maxRecDepth 20000 in
theorem i11_198 : ex_ X d 11 198 [v0, v1, v2] [.ref a] h Q = (gk_ h a 16 [(3, 0)] = true ∧ ex_ X d 11 201 [v0, v1, v2] [gv_ h a 16] h Q) := R_getf (show mx_at 11 198 = some (.getfield 52, 3) by decide +kernel) (mx_fdo ow11 fd30052)
set_option maxRecDepth 20000 in
theorem i11_201 : ex_ X d 11 201 [v0, v1, .int x] [w0] h Q = ex_ X d 11 202 [v0, v1, .int x] [.int x, w0] h Q := ex_nx (show mx_at 11 201 = some (.iload_n 2, 1) by decide +kernel) rfl
set_option maxRecDepth 20000 in
theorem i11_202 : ex_ X d 11 202 [v0, .ref a, v2] [w0, w1] h Q = ex_ X d 11 203 [v0, .ref a, v2] [.ref a, w0, w1] h Q := ex_nx (show mx_at 11 202 = some (.aload_n 1, 1) by decide +kernel) rfl
set_option maxRecDepth 20000 in
theorem i11_202n : ex_ X d 11 202 [v0, .null, v2] [w0, w1] h Q = ex_ X d 11 203 [v0, .null, v2] [.null, w0, w1] h Q := ex_nx (show mx_at 11 202 = some (.aload_n 1, 1) by decide +kernel) rfl
set_option maxRecDepth 20000 in
theorem i11_203 : ex_ X d 11 203 [v0, v1, v2] [.ref a, w0, w1] h Q = (gk_ h a 16 [(3, 0)] = true ∧ ex_ X d 11 206 [v0, v1, v2] [gv_ h a 16, w0, w1] h Q) := R_getf (show mx_at 11 203 = some (.getfield 52, 3) by decide +kernel) (mx_fdo ow11 fd30052)
set_option maxRecDepth 20000 in
theorem i11_206 : ex_ X d 11 206 [v0, v1, .int x] [w0, w1, w2] h Q = ex_ X d 11 207 [v0, v1, .int x] [.int x, w0, w1, w2] h Q := ex_nx (show mx_at 11 206 = some (.iload_n 2, 1) by decide +kernel) rfl
set_option maxRecDepth 20000 in
theorem i11_207 : ex_ X d 11 207 [v0, v1, v2] [.int i, .ref a, w0, w1] h Q = (ik_ h a i = true ∧ ex_ X d 11 208 [v0, v1, v2] [.int (ia_ h a i), w0, w1] h Q) := R_iald (show mx_at 11 207 = some (.iaload, 1) by decide +kernel)
set_option maxRecDepth 20000 in
theorem i11_208 : ex_ X d 11 208 [v0, v1, v2] [.int x, .int i, .ref a] h Q = (ik_ h a i = true ∧ ex_ X d 11 209 [v0, v1, v2] [] (is_ h a i x) Q) := R_iast (show mx_at 11 208 = some (.iastore, 1) by decide +kernel)
set_option maxRecDepth 20000 in
theorem i11_209 : ex_ X d 11 209 [v0, v1, .int x] [] h Q = (mx_nl v1 = true ∧ ex_ X d 11 212 [v0, v1, .int (x + 1)] [] h Q) := R_iinc (n := 2) (c := 1) (show mx_at 11 209 = some (.iinc 2 1, 3) by decide +kernel) rfl
set_option maxRecDepth 20000 in
theorem i11_212 : ex_ X d 11 212 [v0, v1, v2] [] h Q = ex_ X d 11 153 [v0, v1, v2] [] h Q := R_to (show mx_at 11 212 = some (.goto (-59), 3) by decide +kernel) rfl rfl
set_option maxRecDepth 20000 in
theorem i11_215 : ex_ X d 11 215 [v0, v1, v2] [] h Q = Q none h := ex_ret (show mx_at 11 215 = some (.return_, 1) by decide +kernel) (mx_retV rt11)
theorem i11_e : ev_ X d 11 [.ref a, .ref a0] h Q = ex_ X d 11 0 [.ref a, .ref a0, .double 0] [] h Q := by rw [ev_, ml11]; rfl
-- 12 X3_addSeller
set_option maxRecDepth 20000 in
theorem i12_0 : ex_ X d 12 0 [.ref a, v1, v2] [] h Q = ex_ X d 12 1 [.ref a, v1, v2] [.ref a] h Q := ex_nx (show mx_at 12 0 = some (.aload_n 0, 1) by decide +kernel) rfl
set_option maxRecDepth 20000 in
theorem i12_1 : ex_ X d 12 1 [v0, v1, v2] [.ref a] h Q = (gk_ h a 7 [(3, 0)] = true ∧ ex_ X d 12 4 [v0, v1, v2] [gv_ h a 7] h Q) := R_getf (show mx_at 12 1 = some (.getfield 71, 3) by decide +kernel) (mx_fdo ow12 fd30071)
set_option maxRecDepth 20000 in
theorem i12_4 : ex_ X d 12 4 [v0, v1, v2] [.int x] h Q = (mx_nl v1 = true ∧ ex_ X d 12 5 [v0, v1, .int x] [] h Q) := mx_t1 (R_st (ok := mx_isI) (n := 2) (w := 1) (show mx_at 12 4 = some (.istore_n 2, 1) by decide +kernel) (fun _ _ => rfl) (Nat.le_of_ble_eq_true rfl)) rfl
set_option maxRecDepth 20000 in
theorem i12_5 : ex_ X d 12 5 [.ref a, v1, v2] [] h Q = ex_ X d 12 6 [.ref a, v1, v2] [.ref a] h Q := ex_nx (show mx_at 12 5 = some (.aload_n 0, 1) by decide +kernel) rfl
set_option maxRecDepth 20000 in
theorem i12_6 : ex_ X d 12 6 [v0, v1, v2] [.ref a] h Q = (gk_ h a 6 [(3, 0)] = true ∧ ex_ X d 12 9 [v0, v1, v2] [gv_ h a 6] h Q) := R_getf (show mx_at 12 6 = some (.getfield 27, 3) by decide +kernel) (mx_fdo ow12 fd30027)
set_option maxRecDepth 20000 in
theorem i12_9 : ex_ X d 12 9 [v0, v1, .int x] [w0] h Q = ex_ X d 12 10 [v0, v1, .int x] [.int x, w0] h Q := ex_nx (show mx_at 12 9 = some (.iload_n 2, 1) by decide +kernel) rfl
set_option maxRecDepth 20000 in
theorem i12_10 : ex_ X d 12 10 [v0, .ref a, v2] [w0, w1] h Q = ex_ X d 12 11 [v0, .ref a, v2] [.ref a, w0, w1] h Q := ex_nx (show mx_at 12 10 = some (.aload_n 1, 1) by decide +kernel) rfl
set_option maxRecDepth 20000 in
theorem i12_11 : ex_ X d 12 11 [v0, v1, v2] [.ref b, .int i, .ref a] h Q = (rx_ h a i b = true ∧ ex_ X d 12 12 [v0, v1, v2] [] (rs_ h a i (some b)) Q) := R_aast (show mx_at 12 11 = some (.aastore, 1) by decide +kernel)
set_option maxRecDepth 20000 in
theorem i12_12 : ex_ X d 12 12 [.ref a, v1, v2] [] h Q = ex_ X d 12 13 [.ref a, v1, v2] [.ref a] h Q := ex_nx (show mx_at 12 12 = some (.aload_n 0, 1) by decide +kernel) rfl
set_option maxRecDepth 20000 in
theorem i12_13 : ex_ X d 12 13 [v0, v1, v2] [.ref a] h Q = (gk_ h a 8 [(3, 0)] = true ∧ ex_ X d 12 16 [v0, v1, v2] [gv_ h a 8] h Q) := R_getf (show mx_at 12 13 = some (.getfield 31, 3) by decide +kernel) (mx_fdo ow12 fd30031)
set_option maxRecDepth 20000 in
theorem i12_16 : ex_ X d 12 16 [v0, v1, .int x] [w0] h Q = ex_ X d 12 17 [v0, v1, .int x] [.int x, w0] h Q := ex_nx (show mx_at 12 16 = some (.iload_n 2, 1) by decide +kernel) rfl
set_option maxRecDepth 20000 in
theorem i12_17 : ex_ X d 12 17 [v0, v1, v2] [w0, w1] h Q = ex_ X d 12 18 [v0, v1, v2] [.int 0, w0, w1] h Q := R_iconst (show mx_at 12 17 = some (.iconst 0, 1) by decide +kernel) (by decide)
set_option maxRecDepth 20000 in
theorem i12_18 : ex_ X d 12 18 [v0, v1, v2] [.int x, .int i, .ref a] h Q = (ik_ h a i = true ∧ ex_ X d 12 19 [v0, v1, v2] [] (is_ h a i x) Q) := R_iast (show mx_at 12 18 = some (.iastore, 1) by decide +kernel)
set_option maxRecDepth 20000 in
theorem i12_19 : ex_ X d 12 19 [.ref a, v1, v2] [] h Q = ex_ X d 12 20 [.ref a, v1, v2] [.ref a] h Q := ex_nx (show mx_at 12 19 = some (.aload_n 0, 1) by decide +kernel) rfl
set_option maxRecDepth 20000 in
theorem i12_20 : ex_ X d 12 20 [v0, v1, v2] [.ref a] h Q = (gk_ h a 9 [(3, 0)] = true ∧ ex_ X d 12 23 [v0, v1, v2] [gv_ h a 9] h Q) := R_getf (show mx_at 12 20 = some (.getfield 34, 3) by decide +kernel) (mx_fdo ow12 fd30034)
set_option maxRecDepth 20000 in
theorem i12_23 : ex_ X d 12 23 [v0, v1, .int x] [w0] h Q = ex_ X d 12 24 [v0, v1, .int x] [.int x, w0] h Q := ex_nx (show mx_at 12 23 = some (.iload_n 2, 1) by decide +kernel) rfl
set_option maxRecDepth 20000 in
theorem i12_24 : ex_ X d 12 24 [v0, v1, v2] [w0, w1] h Q = ex_ X d 12 25 [v0, v1, v2] [.int 0, w0, w1] h Q := R_iconst (show mx_at 12 24 = some (.iconst 0, 1) by decide +kernel) (by decide)
set_option maxRecDepth 20000 in
theorem i12_25 : ex_ X d 12 25 [v0, v1, v2] [.int x, .int i, .ref a] h Q = (ik_ h a i = true ∧ ex_ X d 12 26 [v0, v1, v2] [] (is_ h a i x) Q) := R_iast (show mx_at 12 25 = some (.iastore, 1) by decide +kernel)
set_option maxRecDepth 20000 in
theorem i12_26 : ex_ X d 12 26 [.ref a, v1, v2] [] h Q = ex_ X d 12 27 [.ref a, v1, v2] [.ref a] h Q := ex_nx (show mx_at 12 26 = some (.aload_n 0, 1) by decide +kernel) rfl
set_option maxRecDepth 20000 in
theorem i12_27 : ex_ X d 12 27 [v0, v1, v2] [.ref a] h Q = (gk_ h a 10 [(3, 0)] = true ∧ ex_ X d 12 30 [v0, v1, v2] [gv_ h a 10] h Q) := R_getf (show mx_at 12 27 = some (.getfield 37, 3) by decide +kernel) (mx_fdo ow12 fd30037)
set_option maxRecDepth 20000 in
theorem i12_30 : ex_ X d 12 30 [v0, v1, .int x] [w0] h Q = ex_ X d 12 31 [v0, v1, .int x] [.int x, w0] h Q := ex_nx (show mx_at 12 30 = some (.iload_n 2, 1) by decide +kernel) rfl
set_option maxRecDepth 20000 in
theorem i12_31 : ex_ X d 12 31 [v0, v1, v2] [w0, w1] h Q = ex_ X d 12 32 [v0, v1, v2] [.int (-1), w0, w1] h Q := R_iconst (show mx_at 12 31 = some (.iconst (-1), 1) by decide +kernel) (by decide)
set_option maxRecDepth 20000 in
theorem i12_32 : ex_ X d 12 32 [v0, v1, v2] [.int x, .int i, .ref a] h Q = (ik_ h a i = true ∧ ex_ X d 12 33 [v0, v1, v2] [] (is_ h a i x) Q) := R_iast (show mx_at 12 32 = some (.iastore, 1) by decide +kernel)
set_option maxRecDepth 20000 in
theorem i12_33 : ex_ X d 12 33 [.ref a, v1, v2] [] h Q = ex_ X d 12 34 [.ref a, v1, v2] [.ref a] h Q := ex_nx (show mx_at 12 33 = some (.aload_n 0, 1) by decide +kernel) rfl
set_option maxRecDepth 20000 in
theorem i12_34 : ex_ X d 12 34 [v0, v1, v2] [.ref a] h Q = ex_ X d 12 35 [v0, v1, v2] [.ref a, .ref a] h Q := ex_nx (show mx_at 12 34 = some (.dup, 1) by decide +kernel) rfl
set_option maxRecDepth 20000 in
theorem i12_35 : ex_ X d 12 35 [v0, v1, v2] [.ref a, w0] h Q = (gk_ h a 7 [(3, 0)] = true ∧ ex_ X d 12 38 [v0, v1, v2] [gv_ h a 7, w0] h Q) := R_getf (show mx_at 12 35 = some (.getfield 71, 3) by decide +kernel) (mx_fdo ow12 fd30071)
set_option maxRecDepth 20000 in
theorem i12_38 : ex_ X d 12 38 [v0, v1, v2] [w0, w1] h Q = ex_ X d 12 39 [v0, v1, v2] [.int 1, w0, w1] h Q := R_iconst (show mx_at 12 38 = some (.iconst 1, 1) by decide +kernel) (by decide)
set_option maxRecDepth 20000 in
theorem i12_39 : ex_ X d 12 39 [v0, v1, v2] [.int y, .int x, w0] h Q = ex_ X d 12 40 [v0, v1, v2] [.int (x + y), w0] h Q := ex_nx (show mx_at 12 39 = some (.iadd, 1) by decide +kernel) rfl
set_option maxRecDepth 20000 in
theorem i12_40 : ex_ X d 12 40 [v0, v1, v2] [w, .ref a] h Q = (pk_ 12 h a 7 w [(3, 0)] = true ∧ ex_ X d 12 43 [v0, v1, v2] [] (pf_ h a 7 w) Q) := R_putf (show mx_at 12 40 = some (.putfield 71, 3) by decide +kernel) (mx_fdo ow12 fd30071)
set_option maxRecDepth 20000 in
theorem i12_43 : ex_ X d 12 43 [v0, v1, .int x] [] h Q = ex_ X d 12 44 [v0, v1, .int x] [.int x] h Q := ex_nx (show mx_at 12 43 = some (.iload_n 2, 1) by decide +kernel) rfl
set_option maxRecDepth 20000 in
theorem i12_44 : ex_ X d 12 44 [v0, v1, v2] [.int x] h Q = Q (some (.int x)) h := ex_ret (show mx_at 12 44 = some (.ireturn, 1) by decide +kernel) (mx_retI rt12)
theorem i12_e : ev_ X d 12 [.ref a, .ref a0] h Q = ex_ X d 12 0 [.ref a, .ref a0, .double 0] [] h Q := by rw [ev_, ml12]; rfl
-- 13 X3_addSort
set_option maxRecDepth 20000 in
theorem i13_0 : ex_ X d 13 0 [.ref a, v1, v2, v3, v4] [] h Q = ex_ X d 13 1 [.ref a, v1, v2, v3, v4] [.ref a] h Q := ex_nx (show mx_at 13 0 = some (.aload_n 0, 1) by decide +kernel) rfl
set_option maxRecDepth 20000 in
theorem i13_1 : ex_ X d 13 1 [v0, v1, v2, v3, v4] [.ref a] h Q = (gk_ h a 12 [(3, 0)] = true ∧ ex_ X d 13 4 [v0, v1, v2, v3, v4] [gv_ h a 12] h Q) := R_getf (show mx_at 13 1 = some (.getfield 74, 3) by decide +kernel) (mx_fdo ow13 fd30074)
set_option maxRecDepth 20000 in
theorem i13_4 : ex_ X d 13 4 [v0, v1, v2, v3, v4] [.int x] h Q = (mx_nl v3 = true ∧ ex_ X d 13 6 [v0, v1, v2, v3, .int x] [] h Q) := mx_t1 (R_st (ok := mx_isI) (n := 4) (w := 2) (show mx_at 13 4 = some (.istore 4, 2) by decide +kernel) (fun _ _ => rfl) (Nat.le_of_ble_eq_true rfl)) rfl
set_option maxRecDepth 20000 in
theorem i13_6 : ex_ X d 13 6 [.ref a, v1, v2, v3, v4] [] h Q = ex_ X d 13 7 [.ref a, v1, v2, v3, v4] [.ref a] h Q := ex_nx (show mx_at 13 6 = some (.aload_n 0, 1) by decide +kernel) rfl
set_option maxRecDepth 20000 in
theorem i13_7 : ex_ X d 13 7 [v0, v1, v2, v3, v4] [.ref a] h Q = (gk_ h a 13 [(3, 0)] = true ∧ ex_ X d 13 10 [v0, v1, v2, v3, v4] [gv_ h a 13] h Q) := R_getf (show mx_at 13 7 = some (.getfield 43, 3) by decide +kernel) (mx_fdo ow13 fd30043)
set_option maxRecDepth 20000 in
theorem i13_10 : ex_ X d 13 10 [v0, v1, v2, v3, .int x] [w0] h Q = ex_ X d 13 12 [v0, v1, v2, v3, .int x] [.int x, w0] h Q := ex_nx (show mx_at 13 10 = some (.iload 4, 2) by decide +kernel) rfl
set_option maxRecDepth 20000 in
theorem i13_12 : ex_ X d 13 12 [v0, .int x, v2, v3, v4] [w0, w1] h Q = ex_ X d 13 13 [v0, .int x, v2, v3, v4] [.int x, w0, w1] h Q := ex_nx (show mx_at 13 12 = some (.iload_n 1, 1) by decide +kernel) rfl
set_option maxRecDepth 20000 in
theorem i13_13 : ex_ X d 13 13 [v0, v1, v2, v3, v4] [.int x, .int i, .ref a] h Q = (ik_ h a i = true ∧ ex_ X d 13 14 [v0, v1, v2, v3, v4] [] (is_ h a i x) Q) := R_iast (show mx_at 13 13 = some (.iastore, 1) by decide +kernel)
set_option maxRecDepth 20000 in
theorem i13_14 : ex_ X d 13 14 [.ref a, v1, v2, v3, v4] [] h Q = ex_ X d 13 15 [.ref a, v1, v2, v3, v4] [.ref a] h Q := ex_nx (show mx_at 13 14 = some (.aload_n 0, 1) by decide +kernel) rfl
set_option maxRecDepth 20000 in
theorem i13_15 : ex_ X d 13 15 [v0, v1, v2, v3, v4] [.ref a] h Q = (gk_ h a 14 [(3, 0)] = true ∧ ex_ X d 13 18 [v0, v1, v2, v3, v4] [gv_ h a 14] h Q) := R_getf (show mx_at 13 15 = some (.getfield 46, 3) by decide +kernel) (mx_fdo ow13 fd30046)
set_option maxRecDepth 20000 in
theorem i13_18 : ex_ X d 13 18 [v0, v1, v2, v3, .int x] [w0] h Q = ex_ X d 13 20 [v0, v1, v2, v3, .int x] [.int x, w0] h Q := ex_nx (show mx_at 13 18 = some (.iload 4, 2) by decide +kernel) rfl
set_option maxRecDepth 20000 in
theorem i13_20 : ex_ X d 13 20 [v0, v1, .int x, v3, v4] [w0, w1] h Q = ex_ X d 13 21 [v0, v1, .int x, v3, v4] [.int x, w0, w1] h Q := ex_nx (show mx_at 13 20 = some (.iload_n 2, 1) by decide +kernel) rfl
set_option maxRecDepth 20000 in
theorem i13_21 : ex_ X d 13 21 [v0, v1, v2, v3, v4] [.int x, .int i, .ref a] h Q = (ik_ h a i = true ∧ ex_ X d 13 22 [v0, v1, v2, v3, v4] [] (is_ h a i x) Q) := R_iast (show mx_at 13 21 = some (.iastore, 1) by decide +kernel)
set_option maxRecDepth 20000 in
theorem i13_22 : ex_ X d 13 22 [.ref a, v1, v2, v3, v4] [] h Q = ex_ X d 13 23 [.ref a, v1, v2, v3, v4] [.ref a] h Q := ex_nx (show mx_at 13 22 = some (.aload_n 0, 1) by decide +kernel) rfl
set_option maxRecDepth 20000 in
theorem i13_23 : ex_ X d 13 23 [v0, v1, v2, v3, v4] [.ref a] h Q = (gk_ h a 15 [(3, 0)] = true ∧ ex_ X d 13 26 [v0, v1, v2, v3, v4] [gv_ h a 15] h Q) := R_getf (show mx_at 13 23 = some (.getfield 49, 3) by decide +kernel) (mx_fdo ow13 fd30049)
set_option maxRecDepth 20000 in
theorem i13_26 : ex_ X d 13 26 [v0, v1, v2, v3, .int x] [w0] h Q = ex_ X d 13 28 [v0, v1, v2, v3, .int x] [.int x, w0] h Q := ex_nx (show mx_at 13 26 = some (.iload 4, 2) by decide +kernel) rfl
set_option maxRecDepth 20000 in
theorem i13_28 : ex_ X d 13 28 [v0, v1, v2, .int x, v4] [w0, w1] h Q = ex_ X d 13 29 [v0, v1, v2, .int x, v4] [.int x, w0, w1] h Q := ex_nx (show mx_at 13 28 = some (.iload_n 3, 1) by decide +kernel) rfl
set_option maxRecDepth 20000 in
theorem i13_29 : ex_ X d 13 29 [v0, v1, v2, v3, v4] [.int x, .int i, .ref a] h Q = (ik_ h a i = true ∧ ex_ X d 13 30 [v0, v1, v2, v3, v4] [] (is_ h a i x) Q) := R_iast (show mx_at 13 29 = some (.iastore, 1) by decide +kernel)
set_option maxRecDepth 20000 in
theorem i13_30 : ex_ X d 13 30 [.ref a, v1, v2, v3, v4] [] h Q = ex_ X d 13 31 [.ref a, v1, v2, v3, v4] [.ref a] h Q := ex_nx (show mx_at 13 30 = some (.aload_n 0, 1) by decide +kernel) rfl
set_option maxRecDepth 20000 in
theorem i13_31 : ex_ X d 13 31 [v0, v1, v2, v3, v4] [.ref a] h Q = (gk_ h a 16 [(3, 0)] = true ∧ ex_ X d 13 34 [v0, v1, v2, v3, v4] [gv_ h a 16] h Q) := R_getf (show mx_at 13 31 = some (.getfield 52, 3) by decide +kernel) (mx_fdo ow13 fd30052)
set_option maxRecDepth 20000 in
theorem i13_34 : ex_ X d 13 34 [v0, v1, v2, v3, .int x] [w0] h Q = ex_ X d 13 36 [v0, v1, v2, v3, .int x] [.int x, w0] h Q := ex_nx (show mx_at 13 34 = some (.iload 4, 2) by decide +kernel) rfl
set_option maxRecDepth 20000 in
theorem i13_36 : ex_ X d 13 36 [v0, v1, v2, v3, v4] [w0, w1] h Q = ex_ X d 13 37 [v0, v1, v2, v3, v4] [.int 0, w0, w1] h Q := R_iconst (show mx_at 13 36 = some (.iconst 0, 1) by decide +kernel) (by decide)
set_option maxRecDepth 20000 in
theorem i13_37 : ex_ X d 13 37 [v0, v1, v2, v3, v4] [.int x, .int i, .ref a] h Q = (ik_ h a i = true ∧ ex_ X d 13 38 [v0, v1, v2, v3, v4] [] (is_ h a i x) Q) := R_iast (show mx_at 13 37 = some (.iastore, 1) by decide +kernel)
set_option maxRecDepth 20000 in
theorem i13_38 : ex_ X d 13 38 [.ref a, v1, v2, v3, v4] [] h Q = ex_ X d 13 39 [.ref a, v1, v2, v3, v4] [.ref a] h Q := ex_nx (show mx_at 13 38 = some (.aload_n 0, 1) by decide +kernel) rfl
set_option maxRecDepth 20000 in
theorem i13_39 : ex_ X d 13 39 [v0, v1, v2, v3, v4] [.ref a] h Q = ex_ X d 13 40 [v0, v1, v2, v3, v4] [.ref a, .ref a] h Q := ex_nx (show mx_at 13 39 = some (.dup, 1) by decide +kernel) rfl
set_option maxRecDepth 20000 in
theorem i13_40 : ex_ X d 13 40 [v0, v1, v2, v3, v4] [.ref a, w0] h Q = (gk_ h a 12 [(3, 0)] = true ∧ ex_ X d 13 43 [v0, v1, v2, v3, v4] [gv_ h a 12, w0] h Q) := R_getf (show mx_at 13 40 = some (.getfield 74, 3) by decide +kernel) (mx_fdo ow13 fd30074)
set_option maxRecDepth 20000 in
theorem i13_43 : ex_ X d 13 43 [v0, v1, v2, v3, v4] [w0, w1] h Q = ex_ X d 13 44 [v0, v1, v2, v3, v4] [.int 1, w0, w1] h Q := R_iconst (show mx_at 13 43 = some (.iconst 1, 1) by decide +kernel) (by decide)
set_option maxRecDepth 20000 in
theorem i13_44 : ex_ X d 13 44 [v0, v1, v2, v3, v4] [.int y, .int x, w0] h Q = ex_ X d 13 45 [v0, v1, v2, v3, v4] [.int (x + y), w0] h Q := ex_nx (show mx_at 13 44 = some (.iadd, 1) by decide +kernel) rfl
set_option maxRecDepth 20000 in
theorem i13_45 : ex_ X d 13 45 [v0, v1, v2, v3, v4] [w, .ref a] h Q = (pk_ 13 h a 12 w [(3, 0)] = true ∧ ex_ X d 13 48 [v0, v1, v2, v3, v4] [] (pf_ h a 12 w) Q) := R_putf (show mx_at 13 45 = some (.putfield 74, 3) by decide +kernel) (mx_fdo ow13 fd30074)
set_option maxRecDepth 20000 in
theorem i13_48 : ex_ X d 13 48 [v0, v1, v2, v3, .int x] [] h Q = ex_ X d 13 50 [v0, v1, v2, v3, .int x] [.int x] h Q := ex_nx (show mx_at 13 48 = some (.iload 4, 2) by decide +kernel) rfl
set_option maxRecDepth 20000 in
theorem i13_50 : ex_ X d 13 50 [v0, v1, v2, v3, v4] [.int x] h Q = Q (some (.int x)) h := ex_ret (show mx_at 13 50 = some (.ireturn, 1) by decide +kernel) (mx_retI rt13)
theorem i13_e : ev_ X d 13 [.ref a, .int x0, .int x1, .int x2] h Q = ex_ X d 13 0 [.ref a, .int x0, .int x1, .int x2, .double 0] [] h Q := by rw [ev_, ml13]; rfl
-- 14 X3_ofSellerNow
set_option maxRecDepth 20000 in
theorem i14_0 : ex_ X d 14 0 [.ref a, v1, v2, v3] [] h Q = ex_ X d 14 1 [.ref a, v1, v2, v3] [.ref a] h Q := ex_nx (show mx_at 14 0 = some (.aload_n 0, 1) by decide +kernel) rfl
set_option maxRecDepth 20000 in
theorem i14_1 : ex_ X d 14 1 [v0, v1, v2, v3] [.ref a] h Q = (gk_ h a 6 [(3, 0)] = true ∧ ex_ X d 14 4 [v0, v1, v2, v3] [gv_ h a 6] h Q) := R_getf (show mx_at 14 1 = some (.getfield 27, 3) by decide +kernel) (mx_fdo ow14 fd30027)
set_option maxRecDepth 20000 in
theorem i14_4 : ex_ X d 14 4 [v0, .int x, v2, v3] [w0] h Q = ex_ X d 14 5 [v0, .int x, v2, v3] [.int x, w0] h Q := ex_nx (show mx_at 14 4 = some (.iload_n 1, 1) by decide +kernel) rfl
set_option maxRecDepth 20000 in
theorem i14_5 : ex_ X d 14 5 [v0, v1, v2, v3] [.int i, .ref a] h Q = (rk_ h a i = true ∧ ex_ X d 14 6 [v0, v1, v2, v3] [mx_vr (ra_ h a i)] h Q) := R_aald (show mx_at 14 5 = some (.aaload, 1) by decide +kernel)
set_option maxRecDepth 20000 in
theorem i14_6 : ex_ X d 14 6 [v0, v1, v2, v3] [.ref a] h Q = (mx_nl v2 = true ∧ ex_ X d 14 7 [v0, v1, v2, .ref a] [] h Q) := mx_t1 (R_st (ok := mx_isA) (n := 3) (w := 1) (show mx_at 14 6 = some (.astore_n 3, 1) by decide +kernel) (fun _ _ => rfl) (Nat.le_of_ble_eq_true rfl)) rfl
set_option maxRecDepth 20000 in
theorem i14_7 : ex_ X d 14 7 [v0, v1, .int x, v3] [] h Q = ex_ X d 14 8 [v0, v1, .int x, v3] [.int x] h Q := ex_nx (show mx_at 14 7 = some (.iload_n 2, 1) by decide +kernel) rfl
set_option maxRecDepth 20000 in
theorem i14_8_0 : ex_ X d 14 8 [v0, v1, v2, v3] [.int 0] h Q = ex_ X d 14 56 [v0, v1, v2, v3] [] h Q := R_tsw (off := 48) (show mx_at 14 8 = some (.tableswitch 109 0 7 #[48, 53, 58, 63, 68, 75, 82, 89], 48) by decide +kernel) (by decide) rfl
set_option maxRecDepth 20000 in
theorem i14_8_1 : ex_ X d 14 8 [v0, v1, v2, v3] [.int 1] h Q = ex_ X d 14 61 [v0, v1, v2, v3] [] h Q := R_tsw (off := 53) (show mx_at 14 8 = some (.tableswitch 109 0 7 #[48, 53, 58, 63, 68, 75, 82, 89], 48) by decide +kernel) (by decide) rfl
set_option maxRecDepth 20000 in
theorem i14_8_2 : ex_ X d 14 8 [v0, v1, v2, v3] [.int 2] h Q = ex_ X d 14 66 [v0, v1, v2, v3] [] h Q := R_tsw (off := 58) (show mx_at 14 8 = some (.tableswitch 109 0 7 #[48, 53, 58, 63, 68, 75, 82, 89], 48) by decide +kernel) (by decide) rfl
set_option maxRecDepth 20000 in
theorem i14_8_3 : ex_ X d 14 8 [v0, v1, v2, v3] [.int 3] h Q = ex_ X d 14 71 [v0, v1, v2, v3] [] h Q := R_tsw (off := 63) (show mx_at 14 8 = some (.tableswitch 109 0 7 #[48, 53, 58, 63, 68, 75, 82, 89], 48) by decide +kernel) (by decide) rfl
set_option maxRecDepth 20000 in
theorem i14_8_4 : ex_ X d 14 8 [v0, v1, v2, v3] [.int 4] h Q = ex_ X d 14 76 [v0, v1, v2, v3] [] h Q := R_tsw (off := 68) (show mx_at 14 8 = some (.tableswitch 109 0 7 #[48, 53, 58, 63, 68, 75, 82, 89], 48) by decide +kernel) (by decide) rfl
set_option maxRecDepth 20000 in
theorem i14_8_5 : ex_ X d 14 8 [v0, v1, v2, v3] [.int 5] h Q = ex_ X d 14 83 [v0, v1, v2, v3] [] h Q := R_tsw (off := 75) (show mx_at 14 8 = some (.tableswitch 109 0 7 #[48, 53, 58, 63, 68, 75, 82, 89], 48) by decide +kernel) (by decide) rfl
set_option maxRecDepth 20000 in
theorem i14_8_6 : ex_ X d 14 8 [v0, v1, v2, v3] [.int 6] h Q = ex_ X d 14 90 [v0, v1, v2, v3] [] h Q := R_tsw (off := 82) (show mx_at 14 8 = some (.tableswitch 109 0 7 #[48, 53, 58, 63, 68, 75, 82, 89], 48) by decide +kernel) (by decide) rfl
set_option maxRecDepth 20000 in
theorem i14_8_7 : ex_ X d 14 8 [v0, v1, v2, v3] [.int 7] h Q = ex_ X d 14 97 [v0, v1, v2, v3] [] h Q := R_tsw (off := 89) (show mx_at 14 8 = some (.tableswitch 109 0 7 #[48, 53, 58, 63, 68, 75, 82, 89], 48) by decide +kernel) (by decide) rfl
set_option maxRecDepth 20000 in
theorem i14_8_d (hx : x.toInt < 0 ∨ 7 < x.toInt) : ex_ X d 14 8 [v0, v1, v2, v3] [.int x] h Q = ex_ X d 14 117 [v0, v1, v2, v3] [] h Q := R_tsw (off := 109) (show mx_at 14 8 = some (.tableswitch 109 0 7 #[48, 53, 58, 63, 68, 75, 82, 89], 48) by decide +kernel) (if_pos hx) rfl
set_option maxRecDepth 20000 in
theorem i14_56 : ex_ X d 14 56 [v0, v1, v2, .ref a] [] h Q = ex_ X d 14 57 [v0, v1, v2, .ref a] [.ref a] h Q := ex_nx (show mx_at 14 56 = some (.aload_n 3, 1) by decide +kernel) rfl
set_option maxRecDepth 20000 in
theorem i14_57 : ex_ X d 14 57 [v0, v1, v2, v3] [.ref a] h Q = (gk_ h a 1 [(0, 0), (1, 0), (2, 0), (4, 0), (6, 0), (8, 0), (9, 0)] = true ∧ ex_ X d 14 60 [v0, v1, v2, v3] [gv_ h a 1] h Q) := R_getf (show mx_at 14 57 = some (.getfield 77, 3) by decide +kernel) (mx_fdo ow14 fd30077)
set_option maxRecDepth 20000 in
theorem i14_60 : ex_ X d 14 60 [v0, v1, v2, v3] [.int x] h Q = Q (some (.int x)) h := ex_ret (show mx_at 14 60 = some (.ireturn, 1) by decide +kernel) (mx_retI rt14)
set_option maxRecDepth 20000 in
theorem i14_61 : ex_ X d 14 61 [v0, v1, v2, .ref a] [] h Q = ex_ X d 14 62 [v0, v1, v2, .ref a] [.ref a] h Q := ex_nx (show mx_at 14 61 = some (.aload_n 3, 1) by decide +kernel) rfl
set_option maxRecDepth 20000 in
theorem i14_62 : ex_ X d 14 62 [v0, v1, v2, v3] [.ref a] h Q = (gk_ h a 2 [(0, 0), (1, 0), (2, 0), (4, 0), (6, 0), (8, 0), (9, 0)] = true ∧ ex_ X d 14 65 [v0, v1, v2, v3] [gv_ h a 2] h Q) := R_getf (show mx_at 14 62 = some (.getfield 80, 3) by decide +kernel) (mx_fdo ow14 fd30080)
set_option maxRecDepth 20000 in
theorem i14_65 : ex_ X d 14 65 [v0, v1, v2, v3] [.int x] h Q = Q (some (.int x)) h := ex_ret (show mx_at 14 65 = some (.ireturn, 1) by decide +kernel) (mx_retI rt14)
set_option maxRecDepth 20000 in
theorem i14_66 : ex_ X d 14 66 [v0, v1, v2, .ref a] [] h Q = ex_ X d 14 67 [v0, v1, v2, .ref a] [.ref a] h Q := ex_nx (show mx_at 14 66 = some (.aload_n 3, 1) by decide +kernel) rfl
set_option maxRecDepth 20000 in
theorem i14_67 : ex_ X d 14 67 [v0, v1, v2, v3] [.ref a] h Q = (gk_ h a 3 [(0, 0), (1, 0), (2, 0), (4, 0), (6, 0), (8, 0), (9, 0)] = true ∧ ex_ X d 14 70 [v0, v1, v2, v3] [gv_ h a 3] h Q) := R_getf (show mx_at 14 67 = some (.getfield 83, 3) by decide +kernel) (mx_fdo ow14 fd30083)
set_option maxRecDepth 20000 in
theorem i14_70 : ex_ X d 14 70 [v0, v1, v2, v3] [.int x] h Q = Q (some (.int x)) h := ex_ret (show mx_at 14 70 = some (.ireturn, 1) by decide +kernel) (mx_retI rt14)
set_option maxRecDepth 20000 in
theorem i14_71 : ex_ X d 14 71 [v0, v1, v2, .ref a] [] h Q = ex_ X d 14 72 [v0, v1, v2, .ref a] [.ref a] h Q := ex_nx (show mx_at 14 71 = some (.aload_n 3, 1) by decide +kernel) rfl
set_option maxRecDepth 20000 in
theorem i14_72 : ex_ X d 14 72 [v0, v1, v2, v3] [.ref a] h Q = (gk_ h a 4 [(0, 0), (1, 0), (2, 0), (4, 0), (6, 0), (8, 0), (9, 0)] = true ∧ ex_ X d 14 75 [v0, v1, v2, v3] [gv_ h a 4] h Q) := R_getf (show mx_at 14 72 = some (.getfield 86, 3) by decide +kernel) (mx_fdo ow14 fd30086)
set_option maxRecDepth 20000 in
theorem i14_75 : ex_ X d 14 75 [v0, v1, v2, v3] [.int x] h Q = Q (some (.int x)) h := ex_ret (show mx_at 14 75 = some (.ireturn, 1) by decide +kernel) (mx_retI rt14)
set_option maxRecDepth 20000 in
theorem i14_76 : ex_ X d 14 76 [.ref a, v1, v2, v3] [] h Q = ex_ X d 14 77 [.ref a, v1, v2, v3] [.ref a] h Q := ex_nx (show mx_at 14 76 = some (.aload_n 0, 1) by decide +kernel) rfl
set_option maxRecDepth 20000 in
theorem i14_77 : ex_ X d 14 77 [v0, v1, v2, v3] [.ref a] h Q = (gk_ h a 8 [(3, 0)] = true ∧ ex_ X d 14 80 [v0, v1, v2, v3] [gv_ h a 8] h Q) := R_getf (show mx_at 14 77 = some (.getfield 31, 3) by decide +kernel) (mx_fdo ow14 fd30031)
set_option maxRecDepth 20000 in
theorem i14_80 : ex_ X d 14 80 [v0, .int x, v2, v3] [w0] h Q = ex_ X d 14 81 [v0, .int x, v2, v3] [.int x, w0] h Q := ex_nx (show mx_at 14 80 = some (.iload_n 1, 1) by decide +kernel) rfl
set_option maxRecDepth 20000 in
theorem i14_81 : ex_ X d 14 81 [v0, v1, v2, v3] [.int i, .ref a] h Q = (ik_ h a i = true ∧ ex_ X d 14 82 [v0, v1, v2, v3] [.int (ia_ h a i)] h Q) := R_iald (show mx_at 14 81 = some (.iaload, 1) by decide +kernel)
set_option maxRecDepth 20000 in
theorem i14_82 : ex_ X d 14 82 [v0, v1, v2, v3] [.int x] h Q = Q (some (.int x)) h := ex_ret (show mx_at 14 82 = some (.ireturn, 1) by decide +kernel) (mx_retI rt14)
set_option maxRecDepth 20000 in
theorem i14_83 : ex_ X d 14 83 [.ref a, v1, v2, v3] [] h Q = ex_ X d 14 84 [.ref a, v1, v2, v3] [.ref a] h Q := ex_nx (show mx_at 14 83 = some (.aload_n 0, 1) by decide +kernel) rfl
set_option maxRecDepth 20000 in
theorem i14_84 : ex_ X d 14 84 [v0, v1, v2, v3] [.ref a] h Q = (gk_ h a 9 [(3, 0)] = true ∧ ex_ X d 14 87 [v0, v1, v2, v3] [gv_ h a 9] h Q) := R_getf (show mx_at 14 84 = some (.getfield 34, 3) by decide +kernel) (mx_fdo ow14 fd30034)
set_option maxRecDepth 20000 in
theorem i14_87 : ex_ X d 14 87 [v0, .int x, v2, v3] [w0] h Q = ex_ X d 14 88 [v0, .int x, v2, v3] [.int x, w0] h Q := ex_nx (show mx_at 14 87 = some (.iload_n 1, 1) by decide +kernel) rfl
set_option maxRecDepth 20000 in
theorem i14_88 : ex_ X d 14 88 [v0, v1, v2, v3] [.int i, .ref a] h Q = (ik_ h a i = true ∧ ex_ X d 14 89 [v0, v1, v2, v3] [.int (ia_ h a i)] h Q) := R_iald (show mx_at 14 88 = some (.iaload, 1) by decide +kernel)
set_option maxRecDepth 20000 in
theorem i14_89 : ex_ X d 14 89 [v0, v1, v2, v3] [.int x] h Q = Q (some (.int x)) h := ex_ret (show mx_at 14 89 = some (.ireturn, 1) by decide +kernel) (mx_retI rt14)
set_option maxRecDepth 20000 in
theorem i14_90 : ex_ X d 14 90 [.ref a, v1, v2, v3] [] h Q = ex_ X d 14 91 [.ref a, v1, v2, v3] [.ref a] h Q := ex_nx (show mx_at 14 90 = some (.aload_n 0, 1) by decide +kernel) rfl
set_option maxRecDepth 20000 in
theorem i14_91 : ex_ X d 14 91 [v0, v1, v2, v3] [.ref a] h Q = (gk_ h a 10 [(3, 0)] = true ∧ ex_ X d 14 94 [v0, v1, v2, v3] [gv_ h a 10] h Q) := R_getf (show mx_at 14 91 = some (.getfield 37, 3) by decide +kernel) (mx_fdo ow14 fd30037)
set_option maxRecDepth 20000 in
theorem i14_94 : ex_ X d 14 94 [v0, .int x, v2, v3] [w0] h Q = ex_ X d 14 95 [v0, .int x, v2, v3] [.int x, w0] h Q := ex_nx (show mx_at 14 94 = some (.iload_n 1, 1) by decide +kernel) rfl
set_option maxRecDepth 20000 in
theorem i14_95 : ex_ X d 14 95 [v0, v1, v2, v3] [.int i, .ref a] h Q = (ik_ h a i = true ∧ ex_ X d 14 96 [v0, v1, v2, v3] [.int (ia_ h a i)] h Q) := R_iald (show mx_at 14 95 = some (.iaload, 1) by decide +kernel)
set_option maxRecDepth 20000 in
theorem i14_96 : ex_ X d 14 96 [v0, v1, v2, v3] [.int x] h Q = Q (some (.int x)) h := ex_ret (show mx_at 14 96 = some (.ireturn, 1) by decide +kernel) (mx_retI rt14)
set_option maxRecDepth 20000 in
theorem i14_97 : ex_ X d 14 97 [v0, v1, v2, .ref a] [] h Q = ex_ X d 14 98 [v0, v1, v2, .ref a] [.ref a] h Q := ex_nx (show mx_at 14 97 = some (.aload_n 3, 1) by decide +kernel) rfl
set_option maxRecDepth 20000 in
theorem i14_98 : ex_ X d 14 98 [.ref a, v1, v2, v3] [w0] h Q = ex_ X d 14 99 [.ref a, v1, v2, v3] [.ref a, w0] h Q := ex_nx (show mx_at 14 98 = some (.aload_n 0, 1) by decide +kernel) rfl
set_option maxRecDepth 20000 in
theorem i14_99 : ex_ X d 14 99 [v0, v1, v2, v3] [.ref a, w0] h Q = (gk_ h a 10 [(3, 0)] = true ∧ ex_ X d 14 102 [v0, v1, v2, v3] [gv_ h a 10, w0] h Q) := R_getf (show mx_at 14 99 = some (.getfield 37, 3) by decide +kernel) (mx_fdo ow14 fd30037)
set_option maxRecDepth 20000 in
theorem i14_102 : ex_ X d 14 102 [v0, .int x, v2, v3] [w0, w1] h Q = ex_ X d 14 103 [v0, .int x, v2, v3] [.int x, w0, w1] h Q := ex_nx (show mx_at 14 102 = some (.iload_n 1, 1) by decide +kernel) rfl
set_option maxRecDepth 20000 in
theorem i14_103 : ex_ X d 14 103 [v0, v1, v2, v3] [.int i, .ref a, w0] h Q = (ik_ h a i = true ∧ ex_ X d 14 104 [v0, v1, v2, v3] [.int (ia_ h a i), w0] h Q) := R_iald (show mx_at 14 103 = some (.iaload, 1) by decide +kernel)
set_option maxRecDepth 20000 in
theorem i14_104 : ex_ X d 14 104 [.ref a, v1, v2, v3] [w0, w1] h Q = ex_ X d 14 105 [.ref a, v1, v2, v3] [.ref a, w0, w1] h Q := ex_nx (show mx_at 14 104 = some (.aload_n 0, 1) by decide +kernel) rfl
set_option maxRecDepth 20000 in
theorem i14_105 : ex_ X d 14 105 [v0, v1, v2, v3] [.ref a, w0, w1] h Q = (gk_ h a 8 [(3, 0)] = true ∧ ex_ X d 14 108 [v0, v1, v2, v3] [gv_ h a 8, w0, w1] h Q) := R_getf (show mx_at 14 105 = some (.getfield 31, 3) by decide +kernel) (mx_fdo ow14 fd30031)
set_option maxRecDepth 20000 in
theorem i14_108 : ex_ X d 14 108 [v0, .int x, v2, v3] [w0, w1, w2] h Q = ex_ X d 14 109 [v0, .int x, v2, v3] [.int x, w0, w1, w2] h Q := ex_nx (show mx_at 14 108 = some (.iload_n 1, 1) by decide +kernel) rfl
set_option maxRecDepth 20000 in
theorem i14_109 : ex_ X d 14 109 [v0, v1, v2, v3] [.int i, .ref a, w0, w1] h Q = (ik_ h a i = true ∧ ex_ X d 14 110 [v0, v1, v2, v3] [.int (ia_ h a i), w0, w1] h Q) := R_iald (show mx_at 14 109 = some (.iaload, 1) by decide +kernel)
set_option maxRecDepth 20000 in
theorem i14_110_c0 (hc : co_ h a = some 0) : ex_ X (d + 1) 14 110 [v0, v1, v2, v3] [.int x1, .int x0, .ref a] h Q = ev_ X d 1 [.ref a, .int x0, .int x1] h (fun r h' => ex_ X (d + 1) 14 113 [v0, v1, v2, v3] (r.toList ++ []) h' Q) := R_vir (show mx_at 14 110 = some (.invokevirtual 89, 3) by decide +kernel) (mx_clk ow14 cc3_89) (Nat.le_of_ble_eq_true rfl) rfl rfl hc rfl (Nat.le_of_ble_eq_true rfl) (Nat.le_of_ble_eq_true rfl) (by rw [ml1]; exact Nat.le_of_ble_eq_true rfl)
set_option maxRecDepth 20000 in
theorem i14_110_c1 (hc : co_ h a = some 1) : ex_ X (d + 1) 14 110 [v0, v1, v2, v3] [.int x1, .int x0, .ref a] h Q = ev_ X d 4 [.ref a, .int x0, .int x1] h (fun r h' => ex_ X (d + 1) 14 113 [v0, v1, v2, v3] (r.toList ++ []) h' Q) := R_vir (show mx_at 14 110 = some (.invokevirtual 89, 3) by decide +kernel) (mx_clk ow14 cc3_89) (Nat.le_of_ble_eq_true rfl) rfl rfl hc rfl (Nat.le_of_ble_eq_true rfl) (Nat.le_of_ble_eq_true rfl) (by rw [ml4]; exact Nat.le_of_ble_eq_true rfl)
set_option maxRecDepth 20000 in
theorem i14_110_c2 (hc : co_ h a = some 2) : ex_ X (d + 1) 14 110 [v0, v1, v2, v3] [.int x1, .int x0, .ref a] h Q = ev_ X d 7 [.ref a, .int x0, .int x1] h (fun r h' => ex_ X (d + 1) 14 113 [v0, v1, v2, v3] (r.toList ++ []) h' Q) := R_vir (show mx_at 14 110 = some (.invokevirtual 89, 3) by decide +kernel) (mx_clk ow14 cc3_89) (Nat.le_of_ble_eq_true rfl) rfl rfl hc rfl (Nat.le_of_ble_eq_true rfl) (Nat.le_of_ble_eq_true rfl) (by rw [ml7]; exact Nat.le_of_ble_eq_true rfl)
set_option maxRecDepth 20000 in
theorem i14_110_c4 (hc : co_ h a = some 4) : ex_ X (d + 1) 14 110 [v0, v1, v2, v3] [.int x1, .int x0, .ref a] h Q = ev_ X d 31 [.ref a, .int x0, .int x1] h (fun r h' => ex_ X (d + 1) 14 113 [v0, v1, v2, v3] (r.toList ++ []) h' Q) := R_vir (show mx_at 14 110 = some (.invokevirtual 89, 3) by decide +kernel) (mx_clk ow14 cc3_89) (Nat.le_of_ble_eq_true rfl) rfl rfl hc rfl (Nat.le_of_ble_eq_true rfl) (Nat.le_of_ble_eq_true rfl) (by rw [ml31]; exact Nat.le_of_ble_eq_true rfl)
set_option maxRecDepth 20000 in
theorem i14_110_c6 (hc : co_ h a = some 6) : ex_ X (d + 1) 14 110 [v0, v1, v2, v3] [.int x1, .int x0, .ref a] h Q = ev_ X d 41 [.ref a, .int x0, .int x1] h (fun r h' => ex_ X (d + 1) 14 113 [v0, v1, v2, v3] (r.toList ++ []) h' Q) := R_vir (show mx_at 14 110 = some (.invokevirtual 89, 3) by decide +kernel) (mx_clk ow14 cc3_89) (Nat.le_of_ble_eq_true rfl) rfl rfl hc rfl (Nat.le_of_ble_eq_true rfl) (Nat.le_of_ble_eq_true rfl) (by rw [ml41]; exact Nat.le_of_ble_eq_true rfl)
set_option maxRecDepth 20000 in
theorem i14_110_c8 (hc : co_ h a = some 8) : ex_ X (d + 1) 14 110 [v0, v1, v2, v3] [.int x1, .int x0, .ref a] h Q = ev_ X d 53 [.ref a, .int x0, .int x1] h (fun r h' => ex_ X (d + 1) 14 113 [v0, v1, v2, v3] (r.toList ++ []) h' Q) := R_vir (show mx_at 14 110 = some (.invokevirtual 89, 3) by decide +kernel) (mx_clk ow14 cc3_89) (Nat.le_of_ble_eq_true rfl) rfl rfl hc rfl (Nat.le_of_ble_eq_true rfl) (Nat.le_of_ble_eq_true rfl) (by rw [ml53]; exact Nat.le_of_ble_eq_true rfl)
set_option maxRecDepth 20000 in
theorem i14_110_c9 (hc : co_ h a = some 9) : ex_ X (d + 1) 14 110 [v0, v1, v2, v3] [.int x1, .int x0, .ref a] h Q = ev_ X d 56 [.ref a, .int x0, .int x1] h (fun r h' => ex_ X (d + 1) 14 113 [v0, v1, v2, v3] (r.toList ++ []) h' Q) := R_vir (show mx_at 14 110 = some (.invokevirtual 89, 3) by decide +kernel) (mx_clk ow14 cc3_89) (Nat.le_of_ble_eq_true rfl) rfl rfl hc rfl (Nat.le_of_ble_eq_true rfl) (Nat.le_of_ble_eq_true rfl) (by rw [ml56]; exact Nat.le_of_ble_eq_true rfl)
set_option maxRecDepth 20000 in
theorem i14_113 : ex_ X (d + 1) 14 113 [v0, v1, v2, v3] [.int x0] h Q = ev_ X d 28 [.int x0] h (fun r h' => ex_ X (d + 1) 14 116 [v0, v1, v2, v3] (r.toList ++ []) h' Q) := R_stat (show mx_at 14 113 = some (.invokestatic 93, 3) by decide +kernel) (mx_clk ow14 cc3_93) (Nat.le_of_ble_eq_true rfl) rfl rfl (Nat.le_of_ble_eq_true rfl) ml28 (Nat.le_of_ble_eq_true rfl)
set_option maxRecDepth 20000 in
theorem i14_116 : ex_ X d 14 116 [v0, v1, v2, v3] [.int x] h Q = Q (some (.int x)) h := ex_ret (show mx_at 14 116 = some (.ireturn, 1) by decide +kernel) (mx_retI rt14)
set_option maxRecDepth 20000 in
theorem i14_117 : ex_ X d 14 117 [.ref a, v1, v2, v3] [] h Q = ex_ X d 14 118 [.ref a, v1, v2, v3] [.ref a] h Q := ex_nx (show mx_at 14 117 = some (.aload_n 0, 1) by decide +kernel) rfl
set_option maxRecDepth 20000 in
theorem i14_118 : ex_ X d 14 118 [v0, .int x, v2, v3] [w0] h Q = ex_ X d 14 119 [v0, .int x, v2, v3] [.int x, w0] h Q := ex_nx (show mx_at 14 118 = some (.iload_n 1, 1) by decide +kernel) rfl
set_option maxRecDepth 20000 in
theorem i14_119 (hc : co_ h a = some 3) : ex_ X (d + 1) 14 119 [v0, v1, v2, v3] [.int x0, .ref a] h Q = ev_ X d 18 [.ref a, .int x0] h (fun r h' => ex_ X (d + 1) 14 122 [v0, v1, v2, v3] (r.toList ++ []) h' Q) := R_vir (show mx_at 14 119 = some (.invokevirtual 97, 3) by decide +kernel) (mx_clk ow14 cc3_97) (Nat.le_of_ble_eq_true rfl) rfl rfl hc rfl (Nat.le_of_ble_eq_true rfl) (Nat.le_of_ble_eq_true rfl) (by rw [ml18]; exact Nat.le_of_ble_eq_true rfl)
set_option maxRecDepth 20000 in
theorem i14_122 : ex_ X d 14 122 [v0, v1, v2, v3] [.int x] h Q = Q (some (.int x)) h := ex_ret (show mx_at 14 122 = some (.ireturn, 1) by decide +kernel) (mx_retI rt14)
theorem i14_e : ev_ X d 14 [.ref a, .int x0, .int x1] h Q = ex_ X d 14 0 [.ref a, .int x0, .int x1, .double 0] [] h Q := by rw [ev_, ml14]; rfl
-- 15 X3_feels
set_option maxRecDepth 20000 in
theorem i15_0 : ex_ X d 15 0 [.ref a, v1] [] h Q = ex_ X d 15 1 [.ref a, v1] [.ref a] h Q := ex_nx (show mx_at 15 0 = some (.aload_n 0, 1) by decide +kernel) rfl
set_option maxRecDepth 20000 in
theorem i15_1 : ex_ X d 15 1 [v0, v1] [.ref a] h Q = (gk_ h a 14 [(3, 0)] = true ∧ ex_ X d 15 4 [v0, v1] [gv_ h a 14] h Q) := R_getf (show mx_at 15 1 = some (.getfield 46, 3) by decide +kernel) (mx_fdo ow15 fd30046)
set_option maxRecDepth 20000 in
theorem i15_4 : ex_ X d 15 4 [v0, .int x] [w0] h Q = ex_ X d 15 5 [v0, .int x] [.int x, w0] h Q := ex_nx (show mx_at 15 4 = some (.iload_n 1, 1) by decide +kernel) rfl
set_option maxRecDepth 20000 in
theorem i15_5 : ex_ X d 15 5 [v0, v1] [.int i, .ref a] h Q = (ik_ h a i = true ∧ ex_ X d 15 6 [v0, v1] [.int (ia_ h a i)] h Q) := R_iald (show mx_at 15 5 = some (.iaload, 1) by decide +kernel)
set_option maxRecDepth 20000 in
theorem i15_6 : ex_ X d 15 6 [.ref a, v1] [w0] h Q = ex_ X d 15 7 [.ref a, v1] [.ref a, w0] h Q := ex_nx (show mx_at 15 6 = some (.aload_n 0, 1) by decide +kernel) rfl
set_option maxRecDepth 20000 in
theorem i15_7 : ex_ X d 15 7 [v0, v1] [.ref a, w0] h Q = (gk_ h a 4 [(3, 0)] = true ∧ ex_ X d 15 10 [v0, v1] [gv_ h a 4, w0] h Q) := R_getf (show mx_at 15 7 = some (.getfield 15, 3) by decide +kernel) (mx_fdo ow15 fd30015)
set_option maxRecDepth 20000 in
theorem i15_10 : ex_ X d 15 10 [.ref a, v1] [w0, w1] h Q = ex_ X d 15 11 [.ref a, v1] [.ref a, w0, w1] h Q := ex_nx (show mx_at 15 10 = some (.aload_n 0, 1) by decide +kernel) rfl
set_option maxRecDepth 20000 in
theorem i15_11 : ex_ X d 15 11 [v0, v1] [.ref a, w0, w1] h Q = (gk_ h a 1 [(3, 0)] = true ∧ ex_ X d 15 14 [v0, v1] [gv_ h a 1, w0, w1] h Q) := R_getf (show mx_at 15 11 = some (.getfield 59, 3) by decide +kernel) (mx_fdo ow15 fd30059)
set_option maxRecDepth 20000 in
theorem i15_14 : ex_ X d 15 14 [v0, v1] [.int i, .ref a, w0] h Q = (ik_ h a i = true ∧ ex_ X d 15 15 [v0, v1] [.int (ia_ h a i), w0] h Q) := R_iald (show mx_at 15 14 = some (.iaload, 1) by decide +kernel)
set_option maxRecDepth 20000 in
theorem i15_15 : ex_ X d 15 15 [v0, v1] [.int y, .int x] h Q = ex_ X d 15 16 [v0, v1] [.int (x * y)] h Q := ex_nx (show mx_at 15 15 = some (.imul, 1) by decide +kernel) rfl
set_option maxRecDepth 20000 in
theorem i15_16 : ex_ X d 15 16 [v0, v1] [w0] h Q = ex_ X d 15 18 [v0, v1] [.int 10, w0] h Q := R_bipush (show mx_at 15 16 = some (.bipush 10, 2) by decide +kernel) (by decide)
set_option maxRecDepth 20000 in
theorem i15_18 : ex_ X d 15 18 [v0, v1] [.int y, .int x] h Q = (y ≠ 0 ∧ ex_ X d 15 19 [v0, v1] [.int (x / y)] h Q) := R_div (show mx_at 15 18 = some (.idiv, 1) by decide +kernel)
set_option maxRecDepth 20000 in
theorem i15_19 : ex_ X d 15 19 [v0, v1] [.int x] h Q = Q (some (.int x)) h := ex_ret (show mx_at 15 19 = some (.ireturn, 1) by decide +kernel) (mx_retI rt15)
theorem i15_e : ev_ X d 15 [.ref a, .int x0] h Q = ex_ X d 15 0 [.ref a, .int x0] [] h Q := by rw [ev_, ml15]; rfl
-- 16 X3_gives
set_option maxRecDepth 20000 in
theorem i16_0 : ex_ X d 16 0 [.ref a, v1, v2, v3, v4, v5, v6, v7] [] h Q = ex_ X d 16 1 [.ref a, v1, v2, v3, v4, v5, v6, v7] [.ref a] h Q := ex_nx (show mx_at 16 0 = some (.aload_n 0, 1) by decide +kernel) rfl
set_option maxRecDepth 20000 in
theorem i16_0n : ex_ X d 16 0 [.null, v1, v2, v3, v4, v5, v6, v7] [] h Q = ex_ X d 16 1 [.null, v1, v2, v3, v4, v5, v6, v7] [.null] h Q := ex_nx (show mx_at 16 0 = some (.aload_n 0, 1) by decide +kernel) rfl
set_option maxRecDepth 20000 in
theorem i16_1 : ex_ X d 16 1 [v0, v1, v2, v3, v4, v5, v6, v7] [.ref a] h Q = (gk_ h a 5 [(3, 0)] = true ∧ ex_ X d 16 4 [v0, v1, v2, v3, v4, v5, v6, v7] [gv_ h a 5] h Q) := R_getf (show mx_at 16 1 = some (.getfield 21, 3) by decide +kernel) (mx_fdo ow16 fd30021)
set_option maxRecDepth 20000 in
theorem i16_4 : ex_ X d 16 4 [v0, .int x, v2, v3, v4, v5, v6, v7] [w0] h Q = ex_ X d 16 5 [v0, .int x, v2, v3, v4, v5, v6, v7] [.int x, w0] h Q := ex_nx (show mx_at 16 4 = some (.iload_n 1, 1) by decide +kernel) rfl
set_option maxRecDepth 20000 in
theorem i16_5 : ex_ X d 16 5 [v0, v1, v2, v3, v4, v5, v6, v7] [.int i, .ref a] h Q = (rk_ h a i = true ∧ ex_ X d 16 6 [v0, v1, v2, v3, v4, v5, v6, v7] [mx_vr (ra_ h a i)] h Q) := R_aald (show mx_at 16 5 = some (.aaload, 1) by decide +kernel)
set_option maxRecDepth 20000 in
theorem i16_6 : ex_ X d 16 6 [v0, v1, v2, v3, v4, v5, v6, v7] [.ref a] h Q = (mx_nl v5 = true ∧ ex_ X d 16 8 [v0, v1, v2, v3, v4, v5, .ref a, v7] [] h Q) := mx_t1 (R_st (ok := mx_isA) (n := 6) (w := 2) (show mx_at 16 6 = some (.astore 6, 2) by decide +kernel) (fun _ _ => rfl) (Nat.le_of_ble_eq_true rfl)) rfl
set_option maxRecDepth 20000 in
theorem i16_6n : ex_ X d 16 6 [v0, v1, v2, v3, v4, v5, v6, v7] [.null] h Q = (mx_nl v5 = true ∧ ex_ X d 16 8 [v0, v1, v2, v3, v4, v5, .null, v7] [] h Q) := mx_t1 (R_st (ok := mx_isA) (n := 6) (w := 2) (show mx_at 16 6 = some (.astore 6, 2) by decide +kernel) (fun _ _ => rfl) (Nat.le_of_ble_eq_true rfl)) rfl
set_option maxRecDepth 20000 in
theorem i16_8 : ex_ X d 16 8 [v0, v1, v2, v3, v4, v5, .ref a, v7] [] h Q = ex_ X d 16 10 [v0, v1, v2, v3, v4, v5, .ref a, v7] [.ref a] h Q := ex_nx (show mx_at 16 8 = some (.aload 6, 2) by decide +kernel) rfl
set_option maxRecDepth 20000 in
theorem i16_8n : ex_ X d 16 8 [v0, v1, v2, v3, v4, v5, .null, v7] [] h Q = ex_ X d 16 10 [v0, v1, v2, v3, v4, v5, .null, v7] [.null] h Q := ex_nx (show mx_at 16 8 = some (.aload 6, 2) by decide +kernel) rfl
set_option maxRecDepth 20000 in
theorem i16_10n : ex_ X d 16 10 [v0, v1, v2, v3, v4, v5, v6, v7] [.null] h Q = ex_ X d 16 25 [v0, v1, v2, v3, v4, v5, v6, v7] [] h Q := R_to (show mx_at 16 10 = some (.ifnull 15, 3) by decide +kernel) rfl rfl
set_option maxRecDepth 20000 in
theorem i16_10 : ex_ X d 16 10 [v0, v1, v2, v3, v4, v5, v6, v7] [.ref a] h Q = ex_ X d 16 13 [v0, v1, v2, v3, v4, v5, v6, v7] [] h Q := ex_nx (show mx_at 16 10 = some (.ifnull 15, 3) by decide +kernel) rfl
set_option maxRecDepth 20000 in
theorem i16_13 : ex_ X d 16 13 [v0, v1, v2, v3, v4, v5, .ref a, v7] [] h Q = ex_ X d 16 15 [v0, v1, v2, v3, v4, v5, .ref a, v7] [.ref a] h Q := ex_nx (show mx_at 16 13 = some (.aload 6, 2) by decide +kernel) rfl
set_option maxRecDepth 20000 in
theorem i16_13n : ex_ X d 16 13 [v0, v1, v2, v3, v4, v5, .null, v7] [] h Q = ex_ X d 16 15 [v0, v1, v2, v3, v4, v5, .null, v7] [.null] h Q := ex_nx (show mx_at 16 13 = some (.aload 6, 2) by decide +kernel) rfl
set_option maxRecDepth 20000 in
theorem i16_15 : ex_ X d 16 15 [v0, v1, .int x, v3, v4, v5, v6, v7] [w0] h Q = ex_ X d 16 16 [v0, v1, .int x, v3, v4, v5, v6, v7] [.int x, w0] h Q := ex_nx (show mx_at 16 15 = some (.iload_n 2, 1) by decide +kernel) rfl
set_option maxRecDepth 20000 in
theorem i16_16 : ex_ X d 16 16 [v0, v1, v2, .int x, v4, v5, v6, v7] [w0, w1] h Q = ex_ X d 16 17 [v0, v1, v2, .int x, v4, v5, v6, v7] [.int x, w0, w1] h Q := ex_nx (show mx_at 16 16 = some (.iload_n 3, 1) by decide +kernel) rfl
set_option maxRecDepth 20000 in
theorem i16_17 : ex_ X d 16 17 [v0, v1, v2, v3, .int x, v5, v6, v7] [w0, w1, w2] h Q = ex_ X d 16 19 [v0, v1, v2, v3, .int x, v5, v6, v7] [.int x, w0, w1, w2] h Q := ex_nx (show mx_at 16 17 = some (.iload 4, 2) by decide +kernel) rfl
set_option maxRecDepth 20000 in
theorem i16_19 : ex_ X d 16 19 [v0, v1, v2, v3, v4, .int x, v6, v7] [w0, w1, w2, w3] h Q = ex_ X d 16 21 [v0, v1, v2, v3, v4, .int x, v6, v7] [.int x, w0, w1, w2, w3] h Q := ex_nx (show mx_at 16 19 = some (.iload 5, 2) by decide +kernel) rfl
set_option maxRecDepth 20000 in
theorem i16_21 (hc : co_ h a = some 10) : ex_ X (d + 1) 16 21 [v0, v1, v2, v3, v4, v5, v6, v7] [.int x3, .int x2, .int x1, .int x0, .ref a] h Q = ev_ X d 60 [.ref a, .int x0, .int x1, .int x2, .int x3] h (fun r h' => ex_ X (d + 1) 16 24 [v0, v1, v2, v3, v4, v5, v6, v7] (r.toList ++ []) h' Q) := R_vir (show mx_at 16 21 = some (.invokevirtual 100, 3) by decide +kernel) (mx_clk ow16 cc3_100) (Nat.le_of_ble_eq_true rfl) rfl rfl hc rfl (Nat.le_of_ble_eq_true rfl) (Nat.le_of_ble_eq_true rfl) (by rw [ml60]; exact Nat.le_of_ble_eq_true rfl)
set_option maxRecDepth 20000 in
theorem i16_24 : ex_ X d 16 24 [v0, v1, v2, v3, v4, v5, v6, v7] [.int x] h Q = Q (some (.int x)) h := ex_ret (show mx_at 16 24 = some (.ireturn, 1) by decide +kernel) (mx_retI rt16)
set_option maxRecDepth 20000 in
theorem i16_25 : ex_ X d 16 25 [v0, .int x, v2, v3, v4, v5, v6, v7] [] h Q = ex_ X d 16 26 [v0, .int x, v2, v3, v4, v5, v6, v7] [.int x] h Q := ex_nx (show mx_at 16 25 = some (.iload_n 1, 1) by decide +kernel) rfl
set_option maxRecDepth 20000 in
theorem i16_26 : ex_ X d 16 26 [v0, v1, v2, v3, v4, v5, v6, v7] [.int x] h Q = if ¬ x = 0 then ex_ X d 16 36 [v0, v1, v2, v3, v4, v5, v6, v7] [] h Q else ex_ X d 16 29 [v0, v1, v2, v3, v4, v5, v6, v7] [] h Q := (R_br (show mx_at 16 26 = some (.ifCond .ne 10, 3) by decide +kernel) rfl rfl).trans mx_ite
set_option maxRecDepth 20000 in
theorem i16_29 : ex_ X d 16 29 [v0, v1, v2, .int x, v4, v5, v6, v7] [] h Q = ex_ X d 16 30 [v0, v1, v2, .int x, v4, v5, v6, v7] [.int x] h Q := ex_nx (show mx_at 16 29 = some (.iload_n 3, 1) by decide +kernel) rfl
set_option maxRecDepth 20000 in
theorem i16_30 : ex_ X d 16 30 [v0, v1, v2, v3, v4, .int x, v6, v7] [w0] h Q = ex_ X d 16 32 [v0, v1, v2, v3, v4, .int x, v6, v7] [.int x, w0] h Q := ex_nx (show mx_at 16 30 = some (.iload 5, 2) by decide +kernel) rfl
set_option maxRecDepth 20000 in
theorem i16_32 : ex_ X d 16 32 [v0, v1, v2, v3, v4, v5, v6, v7] [.int y, .int x] h Q = ex_ X d 16 33 [v0, v1, v2, v3, v4, v5, v6, v7] [.int (x + y)] h Q := ex_nx (show mx_at 16 32 = some (.iadd, 1) by decide +kernel) rfl
set_option maxRecDepth 20000 in
theorem i16_33 : ex_ X d 16 33 [v0, v1, v2, v3, v4, v5, v6, v7] [w0] h Q = ex_ X d 16 37 [v0, v1, v2, v3, v4, v5, v6, v7] [w0] h Q := R_to (show mx_at 16 33 = some (.goto 4, 3) by decide +kernel) rfl rfl
set_option maxRecDepth 20000 in
theorem i16_36 : ex_ X d 16 36 [v0, v1, v2, .int x, v4, v5, v6, v7] [] h Q = ex_ X d 16 37 [v0, v1, v2, .int x, v4, v5, v6, v7] [.int x] h Q := ex_nx (show mx_at 16 36 = some (.iload_n 3, 1) by decide +kernel) rfl
set_option maxRecDepth 20000 in
theorem i16_37 : ex_ X d 16 37 [v0, v1, v2, v3, v4, v5, v6, v7] [.int x] h Q = (mx_nl v6 = true ∧ ex_ X d 16 39 [v0, v1, v2, v3, v4, v5, v6, .int x] [] h Q) := mx_t1 (R_st (ok := mx_isI) (n := 7) (w := 2) (show mx_at 16 37 = some (.istore 7, 2) by decide +kernel) (fun _ _ => rfl) (Nat.le_of_ble_eq_true rfl)) rfl
set_option maxRecDepth 20000 in
theorem i16_39 : ex_ X d 16 39 [v0, v1, .int x, v3, v4, v5, v6, v7] [] h Q = ex_ X d 16 40 [v0, v1, .int x, v3, v4, v5, v6, v7] [.int x] h Q := ex_nx (show mx_at 16 39 = some (.iload_n 2, 1) by decide +kernel) rfl
set_option maxRecDepth 20000 in
theorem i16_40 : ex_ X d 16 40 [v0, v1, v2, v3, v4, v5, v6, .int x] [w0] h Q = ex_ X d 16 42 [v0, v1, v2, v3, v4, v5, v6, .int x] [.int x, w0] h Q := ex_nx (show mx_at 16 40 = some (.iload 7, 2) by decide +kernel) rfl
set_option maxRecDepth 20000 in
theorem i16_42 : ex_ X d 16 42 [v0, v1, v2, v3, v4, v5, v6, v7] [.int y, .int x] h Q = if x ≤ y then ex_ X d 16 49 [v0, v1, v2, v3, v4, v5, v6, v7] [] h Q else ex_ X d 16 45 [v0, v1, v2, v3, v4, v5, v6, v7] [] h Q := (R_br (show mx_at 16 42 = some (.if_icmp .le 7, 3) by decide +kernel) rfl rfl).trans mx_ite
set_option maxRecDepth 20000 in
theorem i16_45 : ex_ X d 16 45 [v0, v1, v2, v3, v4, v5, v6, v7] [] h Q = ex_ X d 16 46 [v0, v1, v2, v3, v4, v5, v6, v7] [.int 0] h Q := R_iconst (show mx_at 16 45 = some (.iconst 0, 1) by decide +kernel) (by decide)
set_option maxRecDepth 20000 in
theorem i16_46 : ex_ X d 16 46 [v0, v1, v2, v3, v4, v5, v6, v7] [w0] h Q = ex_ X d 16 50 [v0, v1, v2, v3, v4, v5, v6, v7] [w0] h Q := R_to (show mx_at 16 46 = some (.goto 4, 3) by decide +kernel) rfl rfl
set_option maxRecDepth 20000 in
theorem i16_49 : ex_ X d 16 49 [v0, v1, v2, v3, v4, v5, v6, v7] [] h Q = ex_ X d 16 50 [v0, v1, v2, v3, v4, v5, v6, v7] [.int 1] h Q := R_iconst (show mx_at 16 49 = some (.iconst 1, 1) by decide +kernel) (by decide)
set_option maxRecDepth 20000 in
theorem i16_50 : ex_ X d 16 50 [v0, v1, v2, v3, v4, v5, v6, v7] [.int x] h Q = Q (some (.int x)) h := ex_ret (show mx_at 16 50 = some (.ireturn, 1) by decide +kernel) (mx_retI rt16)
theorem i16_e : ev_ X d 16 [.ref a, .int x0, .int x1, .int x2, .int x3, .int x4] h Q = ex_ X d 16 0 [.ref a, .int x0, .int x1, .int x2, .int x3, .int x4, .double 0, .double 0] [] h Q := by rw [ev_, ml16]; rfl
-- 17 X3_mayAsk
set_option maxRecDepth 20000 in
theorem i17_0 : ex_ X d 17 0 [v0, .int x, v2] [] h Q = ex_ X d 17 1 [v0, .int x, v2] [.int x] h Q := ex_nx (show mx_at 17 0 = some (.iload_n 1, 1) by decide +kernel) rfl
set_option maxRecDepth 20000 in
theorem i17_1 : ex_ X d 17 1 [v0, v1, v2] [.int x] h Q = if x < 0 then ex_ X d 17 29 [v0, v1, v2] [] h Q else ex_ X d 17 4 [v0, v1, v2] [] h Q := (R_br (show mx_at 17 1 = some (.ifCond .lt 28, 3) by decide +kernel) rfl rfl).trans mx_ite
set_option maxRecDepth 20000 in
theorem i17_4 : ex_ X d 17 4 [.ref a, v1, v2] [] h Q = ex_ X d 17 5 [.ref a, v1, v2] [.ref a] h Q := ex_nx (show mx_at 17 4 = some (.aload_n 0, 1) by decide +kernel) rfl
set_option maxRecDepth 20000 in
theorem i17_5 : ex_ X d 17 5 [v0, v1, v2] [.ref a] h Q = (gk_ h a 3 [(3, 0)] = true ∧ ex_ X d 17 8 [v0, v1, v2] [gv_ h a 3] h Q) := R_getf (show mx_at 17 5 = some (.getfield 9, 3) by decide +kernel) (mx_fdo ow17 fd30009)
set_option maxRecDepth 20000 in
theorem i17_8 : ex_ X d 17 8 [v0, v1, v2] [.int x] h Q = if x = 0 then ex_ X d 17 29 [v0, v1, v2] [] h Q else ex_ X d 17 11 [v0, v1, v2] [] h Q := (R_br (show mx_at 17 8 = some (.ifCond .eq 21, 3) by decide +kernel) rfl rfl).trans mx_ite
set_option maxRecDepth 20000 in
theorem i17_11 : ex_ X d 17 11 [.ref a, v1, v2] [] h Q = ex_ X d 17 12 [.ref a, v1, v2] [.ref a] h Q := ex_nx (show mx_at 17 11 = some (.aload_n 0, 1) by decide +kernel) rfl
set_option maxRecDepth 20000 in
theorem i17_12 : ex_ X d 17 12 [v0, v1, v2] [w0] h Q = ex_ X d 17 13 [v0, v1, v2] [.int 0, w0] h Q := R_iconst (show mx_at 17 12 = some (.iconst 0, 1) by decide +kernel) (by decide)
set_option maxRecDepth 20000 in
theorem i17_13 : ex_ X d 17 13 [v0, v1, .int x] [w0, w1] h Q = ex_ X d 17 14 [v0, v1, .int x] [.int x, w0, w1] h Q := ex_nx (show mx_at 17 13 = some (.iload_n 2, 1) by decide +kernel) rfl
set_option maxRecDepth 20000 in
theorem i17_14 : ex_ X d 17 14 [v0, .int x, v2] [w0, w1, w2] h Q = ex_ X d 17 15 [v0, .int x, v2] [.int x, w0, w1, w2] h Q := ex_nx (show mx_at 17 14 = some (.iload_n 1, 1) by decide +kernel) rfl
set_option maxRecDepth 20000 in
theorem i17_15 : ex_ X d 17 15 [.ref a, v1, v2] [w0, w1, w2, w3] h Q = ex_ X d 17 16 [.ref a, v1, v2] [.ref a, w0, w1, w2, w3] h Q := ex_nx (show mx_at 17 15 = some (.aload_n 0, 1) by decide +kernel) rfl
set_option maxRecDepth 20000 in
theorem i17_16 : ex_ X d 17 16 [v0, v1, v2] [.ref a, w0, w1, w2, w3] h Q = (gk_ h a 0 [(3, 0)] = true ∧ ex_ X d 17 19 [v0, v1, v2] [gv_ h a 0, w0, w1, w2, w3] h Q) := R_getf (show mx_at 17 16 = some (.getfield 55, 3) by decide +kernel) (mx_fdo ow17 fd30055)
set_option maxRecDepth 20000 in
theorem i17_19 : ex_ X d 17 19 [.ref a, v1, v2] [w0, w1, w2, w3, w4] h Q = ex_ X d 17 20 [.ref a, v1, v2] [.ref a, w0, w1, w2, w3, w4] h Q := ex_nx (show mx_at 17 19 = some (.aload_n 0, 1) by decide +kernel) rfl
set_option maxRecDepth 20000 in
theorem i17_20 : ex_ X d 17 20 [v0, v1, v2] [.ref a, w0, w1, w2, w3, w4] h Q = (gk_ h a 2 [(3, 0)] = true ∧ ex_ X d 17 23 [v0, v1, v2] [gv_ h a 2, w0, w1, w2, w3, w4] h Q) := R_getf (show mx_at 17 20 = some (.getfield 62, 3) by decide +kernel) (mx_fdo ow17 fd30062)
set_option maxRecDepth 20000 in
theorem i17_23 (hc : co_ h a = some 3) : ex_ X (d + 1) 17 23 [v0, v1, v2] [.int x4, .int x3, .int x2, .int x1, .int x0, .ref a] h Q = ev_ X d 16 [.ref a, .int x0, .int x1, .int x2, .int x3, .int x4] h (fun r h' => ex_ X (d + 1) 17 26 [v0, v1, v2] (r.toList ++ []) h' Q) := R_vir (show mx_at 17 23 = some (.invokevirtual 104, 3) by decide +kernel) (mx_clk ow17 cc3_104) (Nat.le_of_ble_eq_true rfl) rfl rfl hc rfl (Nat.le_of_ble_eq_true rfl) (Nat.le_of_ble_eq_true rfl) (by rw [ml16]; exact Nat.le_of_ble_eq_true rfl)
set_option maxRecDepth 20000 in
theorem i17_26 : ex_ X d 17 26 [v0, v1, v2] [.int x] h Q = if x = 0 then ex_ X d 17 33 [v0, v1, v2] [] h Q else ex_ X d 17 29 [v0, v1, v2] [] h Q := (R_br (show mx_at 17 26 = some (.ifCond .eq 7, 3) by decide +kernel) rfl rfl).trans mx_ite
set_option maxRecDepth 20000 in
theorem i17_29 : ex_ X d 17 29 [v0, v1, v2] [] h Q = ex_ X d 17 30 [v0, v1, v2] [.int 1] h Q := R_iconst (show mx_at 17 29 = some (.iconst 1, 1) by decide +kernel) (by decide)
set_option maxRecDepth 20000 in
theorem i17_30 : ex_ X d 17 30 [v0, v1, v2] [w0] h Q = ex_ X d 17 34 [v0, v1, v2] [w0] h Q := R_to (show mx_at 17 30 = some (.goto 4, 3) by decide +kernel) rfl rfl
set_option maxRecDepth 20000 in
theorem i17_33 : ex_ X d 17 33 [v0, v1, v2] [] h Q = ex_ X d 17 34 [v0, v1, v2] [.int 0] h Q := R_iconst (show mx_at 17 33 = some (.iconst 0, 1) by decide +kernel) (by decide)
set_option maxRecDepth 20000 in
theorem i17_34 (hx : x = 0 ∨ x = 1) : ex_ X d 17 34 [v0, v1, v2] [.int x] h Q = Q (some (.int x)) h := ex_ret (show mx_at 17 34 = some (.ireturn, 1) by decide +kernel) (mx_retZ hx rt17)
theorem i17_e : ev_ X d 17 [.ref a, .int x0, .int x1] h Q = ex_ X d 17 0 [.ref a, .int x0, .int x1] [] h Q := by rw [ev_, ml17]; rfl
-- 18 X3_wouldAsk
set_option maxRecDepth 20000 in
theorem i18_0 : ex_ X d 18 0 [.ref a, v1, v2, v3, v4] [] h Q = ex_ X d 18 1 [.ref a, v1, v2, v3, v4] [.ref a] h Q := ex_nx (show mx_at 18 0 = some (.aload_n 0, 1) by decide +kernel) rfl
set_option maxRecDepth 20000 in
theorem i18_1 : ex_ X d 18 1 [v0, v1, v2, v3, v4] [.ref a] h Q = (gk_ h a 6 [(3, 0)] = true ∧ ex_ X d 18 4 [v0, v1, v2, v3, v4] [gv_ h a 6] h Q) := R_getf (show mx_at 18 1 = some (.getfield 27, 3) by decide +kernel) (mx_fdo ow18 fd30027)
set_option maxRecDepth 20000 in
theorem i18_4 : ex_ X d 18 4 [v0, .int x, v2, v3, v4] [w0] h Q = ex_ X d 18 5 [v0, .int x, v2, v3, v4] [.int x, w0] h Q := ex_nx (show mx_at 18 4 = some (.iload_n 1, 1) by decide +kernel) rfl
set_option maxRecDepth 20000 in
theorem i18_5 : ex_ X d 18 5 [v0, v1, v2, v3, v4] [.int i, .ref a] h Q = (rk_ h a i = true ∧ ex_ X d 18 6 [v0, v1, v2, v3, v4] [mx_vr (ra_ h a i)] h Q) := R_aald (show mx_at 18 5 = some (.aaload, 1) by decide +kernel)
set_option maxRecDepth 20000 in
theorem i18_6 : ex_ X d 18 6 [v0, v1, v2, v3, v4] [.ref a] h Q = (mx_nl v1 = true ∧ ex_ X d 18 7 [v0, v1, .ref a, v3, v4] [] h Q) := mx_t1 (R_st (ok := mx_isA) (n := 2) (w := 1) (show mx_at 18 6 = some (.astore_n 2, 1) by decide +kernel) (fun _ _ => rfl) (Nat.le_of_ble_eq_true rfl)) rfl
set_option maxRecDepth 20000 in
theorem i18_7 : ex_ X d 18 7 [v0, v1, .ref a, v3, v4] [] h Q = ex_ X d 18 8 [v0, v1, .ref a, v3, v4] [.ref a] h Q := ex_nx (show mx_at 18 7 = some (.aload_n 2, 1) by decide +kernel) rfl
set_option maxRecDepth 20000 in
theorem i18_8 : ex_ X d 18 8 [.ref a, v1, v2, v3, v4] [w0] h Q = ex_ X d 18 9 [.ref a, v1, v2, v3, v4] [.ref a, w0] h Q := ex_nx (show mx_at 18 8 = some (.aload_n 0, 1) by decide +kernel) rfl
set_option maxRecDepth 20000 in
theorem i18_9 : ex_ X d 18 9 [v0, v1, v2, v3, v4] [.ref a, w0] h Q = (gk_ h a 10 [(3, 0)] = true ∧ ex_ X d 18 12 [v0, v1, v2, v3, v4] [gv_ h a 10, w0] h Q) := R_getf (show mx_at 18 9 = some (.getfield 37, 3) by decide +kernel) (mx_fdo ow18 fd30037)
set_option maxRecDepth 20000 in
theorem i18_12 : ex_ X d 18 12 [v0, .int x, v2, v3, v4] [w0, w1] h Q = ex_ X d 18 13 [v0, .int x, v2, v3, v4] [.int x, w0, w1] h Q := ex_nx (show mx_at 18 12 = some (.iload_n 1, 1) by decide +kernel) rfl
set_option maxRecDepth 20000 in
theorem i18_13 : ex_ X d 18 13 [v0, v1, v2, v3, v4] [.int i, .ref a, w0] h Q = (ik_ h a i = true ∧ ex_ X d 18 14 [v0, v1, v2, v3, v4] [.int (ia_ h a i), w0] h Q) := R_iald (show mx_at 18 13 = some (.iaload, 1) by decide +kernel)
set_option maxRecDepth 20000 in
theorem i18_14 : ex_ X d 18 14 [.ref a, v1, v2, v3, v4] [w0, w1] h Q = ex_ X d 18 15 [.ref a, v1, v2, v3, v4] [.ref a, w0, w1] h Q := ex_nx (show mx_at 18 14 = some (.aload_n 0, 1) by decide +kernel) rfl
set_option maxRecDepth 20000 in
theorem i18_15 : ex_ X d 18 15 [v0, v1, v2, v3, v4] [.ref a, w0, w1] h Q = (gk_ h a 8 [(3, 0)] = true ∧ ex_ X d 18 18 [v0, v1, v2, v3, v4] [gv_ h a 8, w0, w1] h Q) := R_getf (show mx_at 18 15 = some (.getfield 31, 3) by decide +kernel) (mx_fdo ow18 fd30031)
set_option maxRecDepth 20000 in
theorem i18_18 : ex_ X d 18 18 [v0, .int x, v2, v3, v4] [w0, w1, w2] h Q = ex_ X d 18 19 [v0, .int x, v2, v3, v4] [.int x, w0, w1, w2] h Q := ex_nx (show mx_at 18 18 = some (.iload_n 1, 1) by decide +kernel) rfl
set_option maxRecDepth 20000 in
theorem i18_19 : ex_ X d 18 19 [v0, v1, v2, v3, v4] [.int i, .ref a, w0, w1] h Q = (ik_ h a i = true ∧ ex_ X d 18 20 [v0, v1, v2, v3, v4] [.int (ia_ h a i), w0, w1] h Q) := R_iald (show mx_at 18 19 = some (.iaload, 1) by decide +kernel)
set_option maxRecDepth 20000 in
theorem i18_20_c0 (hc : co_ h a = some 0) : ex_ X (d + 1) 18 20 [v0, v1, v2, v3, v4] [.int x1, .int x0, .ref a] h Q = ev_ X d 42 [.ref a, .int x0, .int x1] h (fun r h' => ex_ X (d + 1) 18 23 [v0, v1, v2, v3, v4] (r.toList ++ []) h' Q) := R_vir (show mx_at 18 20 = some (.invokevirtual 107, 3) by decide +kernel) (mx_clk ow18 cc3_107) (Nat.le_of_ble_eq_true rfl) rfl rfl hc rfl (Nat.le_of_ble_eq_true rfl) (Nat.le_of_ble_eq_true rfl) (by rw [ml42]; exact Nat.le_of_ble_eq_true rfl)
set_option maxRecDepth 20000 in
theorem i18_20_c1 (hc : co_ h a = some 1) : ex_ X (d + 1) 18 20 [v0, v1, v2, v3, v4] [.int x1, .int x0, .ref a] h Q = ev_ X d 42 [.ref a, .int x0, .int x1] h (fun r h' => ex_ X (d + 1) 18 23 [v0, v1, v2, v3, v4] (r.toList ++ []) h' Q) := R_vir (show mx_at 18 20 = some (.invokevirtual 107, 3) by decide +kernel) (mx_clk ow18 cc3_107) (Nat.le_of_ble_eq_true rfl) rfl rfl hc rfl (Nat.le_of_ble_eq_true rfl) (Nat.le_of_ble_eq_true rfl) (by rw [ml42]; exact Nat.le_of_ble_eq_true rfl)
set_option maxRecDepth 20000 in
theorem i18_20_c2 (hc : co_ h a = some 2) : ex_ X (d + 1) 18 20 [v0, v1, v2, v3, v4] [.int x1, .int x0, .ref a] h Q = ev_ X d 42 [.ref a, .int x0, .int x1] h (fun r h' => ex_ X (d + 1) 18 23 [v0, v1, v2, v3, v4] (r.toList ++ []) h' Q) := R_vir (show mx_at 18 20 = some (.invokevirtual 107, 3) by decide +kernel) (mx_clk ow18 cc3_107) (Nat.le_of_ble_eq_true rfl) rfl rfl hc rfl (Nat.le_of_ble_eq_true rfl) (Nat.le_of_ble_eq_true rfl) (by rw [ml42]; exact Nat.le_of_ble_eq_true rfl)
set_option maxRecDepth 20000 in
theorem i18_20_c4 (hc : co_ h a = some 4) : ex_ X (d + 1) 18 20 [v0, v1, v2, v3, v4] [.int x1, .int x0, .ref a] h Q = ev_ X d 32 [.ref a, .int x0, .int x1] h (fun r h' => ex_ X (d + 1) 18 23 [v0, v1, v2, v3, v4] (r.toList ++ []) h' Q) := R_vir (show mx_at 18 20 = some (.invokevirtual 107, 3) by decide +kernel) (mx_clk ow18 cc3_107) (Nat.le_of_ble_eq_true rfl) rfl rfl hc rfl (Nat.le_of_ble_eq_true rfl) (Nat.le_of_ble_eq_true rfl) (by rw [ml32]; exact Nat.le_of_ble_eq_true rfl)
set_option maxRecDepth 20000 in
theorem i18_20_c6 (hc : co_ h a = some 6) : ex_ X (d + 1) 18 20 [v0, v1, v2, v3, v4] [.int x1, .int x0, .ref a] h Q = ev_ X d 42 [.ref a, .int x0, .int x1] h (fun r h' => ex_ X (d + 1) 18 23 [v0, v1, v2, v3, v4] (r.toList ++ []) h' Q) := R_vir (show mx_at 18 20 = some (.invokevirtual 107, 3) by decide +kernel) (mx_clk ow18 cc3_107) (Nat.le_of_ble_eq_true rfl) rfl rfl hc rfl (Nat.le_of_ble_eq_true rfl) (Nat.le_of_ble_eq_true rfl) (by rw [ml42]; exact Nat.le_of_ble_eq_true rfl)
set_option maxRecDepth 20000 in
theorem i18_20_c8 (hc : co_ h a = some 8) : ex_ X (d + 1) 18 20 [v0, v1, v2, v3, v4] [.int x1, .int x0, .ref a] h Q = ev_ X d 42 [.ref a, .int x0, .int x1] h (fun r h' => ex_ X (d + 1) 18 23 [v0, v1, v2, v3, v4] (r.toList ++ []) h' Q) := R_vir (show mx_at 18 20 = some (.invokevirtual 107, 3) by decide +kernel) (mx_clk ow18 cc3_107) (Nat.le_of_ble_eq_true rfl) rfl rfl hc rfl (Nat.le_of_ble_eq_true rfl) (Nat.le_of_ble_eq_true rfl) (by rw [ml42]; exact Nat.le_of_ble_eq_true rfl)
set_option maxRecDepth 20000 in
theorem i18_20_c9 (hc : co_ h a = some 9) : ex_ X (d + 1) 18 20 [v0, v1, v2, v3, v4] [.int x1, .int x0, .ref a] h Q = ev_ X d 42 [.ref a, .int x0, .int x1] h (fun r h' => ex_ X (d + 1) 18 23 [v0, v1, v2, v3, v4] (r.toList ++ []) h' Q) := R_vir (show mx_at 18 20 = some (.invokevirtual 107, 3) by decide +kernel) (mx_clk ow18 cc3_107) (Nat.le_of_ble_eq_true rfl) rfl rfl hc rfl (Nat.le_of_ble_eq_true rfl) (Nat.le_of_ble_eq_true rfl) (by rw [ml42]; exact Nat.le_of_ble_eq_true rfl)
set_option maxRecDepth 20000 in
theorem i18_23 : ex_ X d 18 23 [v0, v1, v2, v3, v4] [.int x] h Q = if x = 0 then ex_ X d 18 30 [v0, v1, v2, v3, v4] [] h Q else ex_ X d 18 26 [v0, v1, v2, v3, v4] [] h Q := (R_br (show mx_at 18 23 = some (.ifCond .eq 7, 3) by decide +kernel) rfl rfl).trans mx_ite
set_option maxRecDepth 20000 in
theorem i18_26 : ex_ X d 18 26 [v0, v1, v2, v3, v4] [] h Q = ex_ X d 18 27 [v0, v1, v2, v3, v4] [.int (-1)] h Q := R_iconst (show mx_at 18 26 = some (.iconst (-1), 1) by decide +kernel) (by decide)
set_option maxRecDepth 20000 in
theorem i18_27 : ex_ X d 18 27 [v0, v1, v2, v3, v4] [w0] h Q = ex_ X d 18 36 [v0, v1, v2, v3, v4] [w0] h Q := R_to (show mx_at 18 27 = some (.goto 9, 3) by decide +kernel) rfl rfl
set_option maxRecDepth 20000 in
theorem i18_30 : ex_ X d 18 30 [.ref a, v1, v2, v3, v4] [] h Q = ex_ X d 18 31 [.ref a, v1, v2, v3, v4] [.ref a] h Q := ex_nx (show mx_at 18 30 = some (.aload_n 0, 1) by decide +kernel) rfl
set_option maxRecDepth 20000 in
theorem i18_31 : ex_ X d 18 31 [v0, v1, v2, v3, v4] [.ref a] h Q = (gk_ h a 10 [(3, 0)] = true ∧ ex_ X d 18 34 [v0, v1, v2, v3, v4] [gv_ h a 10] h Q) := R_getf (show mx_at 18 31 = some (.getfield 37, 3) by decide +kernel) (mx_fdo ow18 fd30037)
set_option maxRecDepth 20000 in
theorem i18_34 : ex_ X d 18 34 [v0, .int x, v2, v3, v4] [w0] h Q = ex_ X d 18 35 [v0, .int x, v2, v3, v4] [.int x, w0] h Q := ex_nx (show mx_at 18 34 = some (.iload_n 1, 1) by decide +kernel) rfl
set_option maxRecDepth 20000 in
theorem i18_35 : ex_ X d 18 35 [v0, v1, v2, v3, v4] [.int i, .ref a] h Q = (ik_ h a i = true ∧ ex_ X d 18 36 [v0, v1, v2, v3, v4] [.int (ia_ h a i)] h Q) := R_iald (show mx_at 18 35 = some (.iaload, 1) by decide +kernel)
set_option maxRecDepth 20000 in
theorem i18_36 : ex_ X d 18 36 [v0, v1, v2, v3, v4] [.int x] h Q = (mx_nl v2 = true ∧ ex_ X d 18 37 [v0, v1, v2, .int x, v4] [] h Q) := mx_t1 (R_st (ok := mx_isI) (n := 3) (w := 1) (show mx_at 18 36 = some (.istore_n 3, 1) by decide +kernel) (fun _ _ => rfl) (Nat.le_of_ble_eq_true rfl)) rfl
set_option maxRecDepth 20000 in
theorem i18_37 : ex_ X d 18 37 [v0, v1, .ref a, v3, v4] [] h Q = ex_ X d 18 38 [v0, v1, .ref a, v3, v4] [.ref a] h Q := ex_nx (show mx_at 18 37 = some (.aload_n 2, 1) by decide +kernel) rfl
set_option maxRecDepth 20000 in
theorem i18_38 : ex_ X d 18 38 [.ref a, v1, v2, v3, v4] [w0] h Q = ex_ X d 18 39 [.ref a, v1, v2, v3, v4] [.ref a, w0] h Q := ex_nx (show mx_at 18 38 = some (.aload_n 0, 1) by decide +kernel) rfl
set_option maxRecDepth 20000 in
theorem i18_39 : ex_ X d 18 39 [v0, v1, v2, v3, v4] [.ref a, w0] h Q = (gk_ h a 10 [(3, 0)] = true ∧ ex_ X d 18 42 [v0, v1, v2, v3, v4] [gv_ h a 10, w0] h Q) := R_getf (show mx_at 18 39 = some (.getfield 37, 3) by decide +kernel) (mx_fdo ow18 fd30037)
set_option maxRecDepth 20000 in
theorem i18_42 : ex_ X d 18 42 [v0, .int x, v2, v3, v4] [w0, w1] h Q = ex_ X d 18 43 [v0, .int x, v2, v3, v4] [.int x, w0, w1] h Q := ex_nx (show mx_at 18 42 = some (.iload_n 1, 1) by decide +kernel) rfl
set_option maxRecDepth 20000 in
theorem i18_43 : ex_ X d 18 43 [v0, v1, v2, v3, v4] [.int i, .ref a, w0] h Q = (ik_ h a i = true ∧ ex_ X d 18 44 [v0, v1, v2, v3, v4] [.int (ia_ h a i), w0] h Q) := R_iald (show mx_at 18 43 = some (.iaload, 1) by decide +kernel)
set_option maxRecDepth 20000 in
theorem i18_44 : ex_ X d 18 44 [.ref a, v1, v2, v3, v4] [w0, w1] h Q = ex_ X d 18 45 [.ref a, v1, v2, v3, v4] [.ref a, w0, w1] h Q := ex_nx (show mx_at 18 44 = some (.aload_n 0, 1) by decide +kernel) rfl
set_option maxRecDepth 20000 in
theorem i18_45 : ex_ X d 18 45 [v0, v1, v2, v3, v4] [.ref a, w0, w1] h Q = (gk_ h a 8 [(3, 0)] = true ∧ ex_ X d 18 48 [v0, v1, v2, v3, v4] [gv_ h a 8, w0, w1] h Q) := R_getf (show mx_at 18 45 = some (.getfield 31, 3) by decide +kernel) (mx_fdo ow18 fd30031)
set_option maxRecDepth 20000 in
theorem i18_48 : ex_ X d 18 48 [v0, .int x, v2, v3, v4] [w0, w1, w2] h Q = ex_ X d 18 49 [v0, .int x, v2, v3, v4] [.int x, w0, w1, w2] h Q := ex_nx (show mx_at 18 48 = some (.iload_n 1, 1) by decide +kernel) rfl
set_option maxRecDepth 20000 in
theorem i18_49 : ex_ X d 18 49 [v0, v1, v2, v3, v4] [.int i, .ref a, w0, w1] h Q = (ik_ h a i = true ∧ ex_ X d 18 50 [v0, v1, v2, v3, v4] [.int (ia_ h a i), w0, w1] h Q) := R_iald (show mx_at 18 49 = some (.iaload, 1) by decide +kernel)
set_option maxRecDepth 20000 in
theorem i18_50_c0 (hc : co_ h a = some 0) : ex_ X (d + 1) 18 50 [v0, v1, v2, v3, v4] [.int x1, .int x0, .ref a] h Q = ev_ X d 1 [.ref a, .int x0, .int x1] h (fun r h' => ex_ X (d + 1) 18 53 [v0, v1, v2, v3, v4] (r.toList ++ []) h' Q) := R_vir (show mx_at 18 50 = some (.invokevirtual 89, 3) by decide +kernel) (mx_clk ow18 cc3_89) (Nat.le_of_ble_eq_true rfl) rfl rfl hc rfl (Nat.le_of_ble_eq_true rfl) (Nat.le_of_ble_eq_true rfl) (by rw [ml1]; exact Nat.le_of_ble_eq_true rfl)
set_option maxRecDepth 20000 in
theorem i18_50_c1 (hc : co_ h a = some 1) : ex_ X (d + 1) 18 50 [v0, v1, v2, v3, v4] [.int x1, .int x0, .ref a] h Q = ev_ X d 4 [.ref a, .int x0, .int x1] h (fun r h' => ex_ X (d + 1) 18 53 [v0, v1, v2, v3, v4] (r.toList ++ []) h' Q) := R_vir (show mx_at 18 50 = some (.invokevirtual 89, 3) by decide +kernel) (mx_clk ow18 cc3_89) (Nat.le_of_ble_eq_true rfl) rfl rfl hc rfl (Nat.le_of_ble_eq_true rfl) (Nat.le_of_ble_eq_true rfl) (by rw [ml4]; exact Nat.le_of_ble_eq_true rfl)
set_option maxRecDepth 20000 in
theorem i18_50_c2 (hc : co_ h a = some 2) : ex_ X (d + 1) 18 50 [v0, v1, v2, v3, v4] [.int x1, .int x0, .ref a] h Q = ev_ X d 7 [.ref a, .int x0, .int x1] h (fun r h' => ex_ X (d + 1) 18 53 [v0, v1, v2, v3, v4] (r.toList ++ []) h' Q) := R_vir (show mx_at 18 50 = some (.invokevirtual 89, 3) by decide +kernel) (mx_clk ow18 cc3_89) (Nat.le_of_ble_eq_true rfl) rfl rfl hc rfl (Nat.le_of_ble_eq_true rfl) (Nat.le_of_ble_eq_true rfl) (by rw [ml7]; exact Nat.le_of_ble_eq_true rfl)
set_option maxRecDepth 20000 in
theorem i18_50_c4 (hc : co_ h a = some 4) : ex_ X (d + 1) 18 50 [v0, v1, v2, v3, v4] [.int x1, .int x0, .ref a] h Q = ev_ X d 31 [.ref a, .int x0, .int x1] h (fun r h' => ex_ X (d + 1) 18 53 [v0, v1, v2, v3, v4] (r.toList ++ []) h' Q) := R_vir (show mx_at 18 50 = some (.invokevirtual 89, 3) by decide +kernel) (mx_clk ow18 cc3_89) (Nat.le_of_ble_eq_true rfl) rfl rfl hc rfl (Nat.le_of_ble_eq_true rfl) (Nat.le_of_ble_eq_true rfl) (by rw [ml31]; exact Nat.le_of_ble_eq_true rfl)
set_option maxRecDepth 20000 in
theorem i18_50_c6 (hc : co_ h a = some 6) : ex_ X (d + 1) 18 50 [v0, v1, v2, v3, v4] [.int x1, .int x0, .ref a] h Q = ev_ X d 41 [.ref a, .int x0, .int x1] h (fun r h' => ex_ X (d + 1) 18 53 [v0, v1, v2, v3, v4] (r.toList ++ []) h' Q) := R_vir (show mx_at 18 50 = some (.invokevirtual 89, 3) by decide +kernel) (mx_clk ow18 cc3_89) (Nat.le_of_ble_eq_true rfl) rfl rfl hc rfl (Nat.le_of_ble_eq_true rfl) (Nat.le_of_ble_eq_true rfl) (by rw [ml41]; exact Nat.le_of_ble_eq_true rfl)
set_option maxRecDepth 20000 in
theorem i18_50_c8 (hc : co_ h a = some 8) : ex_ X (d + 1) 18 50 [v0, v1, v2, v3, v4] [.int x1, .int x0, .ref a] h Q = ev_ X d 53 [.ref a, .int x0, .int x1] h (fun r h' => ex_ X (d + 1) 18 53 [v0, v1, v2, v3, v4] (r.toList ++ []) h' Q) := R_vir (show mx_at 18 50 = some (.invokevirtual 89, 3) by decide +kernel) (mx_clk ow18 cc3_89) (Nat.le_of_ble_eq_true rfl) rfl rfl hc rfl (Nat.le_of_ble_eq_true rfl) (Nat.le_of_ble_eq_true rfl) (by rw [ml53]; exact Nat.le_of_ble_eq_true rfl)
set_option maxRecDepth 20000 in
theorem i18_50_c9 (hc : co_ h a = some 9) : ex_ X (d + 1) 18 50 [v0, v1, v2, v3, v4] [.int x1, .int x0, .ref a] h Q = ev_ X d 56 [.ref a, .int x0, .int x1] h (fun r h' => ex_ X (d + 1) 18 53 [v0, v1, v2, v3, v4] (r.toList ++ []) h' Q) := R_vir (show mx_at 18 50 = some (.invokevirtual 89, 3) by decide +kernel) (mx_clk ow18 cc3_89) (Nat.le_of_ble_eq_true rfl) rfl rfl hc rfl (Nat.le_of_ble_eq_true rfl) (Nat.le_of_ble_eq_true rfl) (by rw [ml56]; exact Nat.le_of_ble_eq_true rfl)
set_option maxRecDepth 20000 in
theorem i18_53 : ex_ X (d + 1) 18 53 [v0, v1, v2, v3, v4] [.int x0] h Q = ev_ X d 28 [.int x0] h (fun r h' => ex_ X (d + 1) 18 56 [v0, v1, v2, v3, v4] (r.toList ++ []) h' Q) := R_stat (show mx_at 18 53 = some (.invokestatic 93, 3) by decide +kernel) (mx_clk ow18 cc3_93) (Nat.le_of_ble_eq_true rfl) rfl rfl (Nat.le_of_ble_eq_true rfl) ml28 (Nat.le_of_ble_eq_true rfl)
set_option maxRecDepth 20000 in
theorem i18_56 : ex_ X d 18 56 [v0, v1, v2, v3, v4] [.int x] h Q = (mx_nl v3 = true ∧ ex_ X d 18 58 [v0, v1, v2, v3, .int x] [] h Q) := mx_t1 (R_st (ok := mx_isI) (n := 4) (w := 2) (show mx_at 18 56 = some (.istore 4, 2) by decide +kernel) (fun _ _ => rfl) (Nat.le_of_ble_eq_true rfl)) rfl
set_option maxRecDepth 20000 in
theorem i18_58 : ex_ X d 18 58 [.ref a, v1, v2, v3, v4] [] h Q = ex_ X d 18 59 [.ref a, v1, v2, v3, v4] [.ref a] h Q := ex_nx (show mx_at 18 58 = some (.aload_n 0, 1) by decide +kernel) rfl
set_option maxRecDepth 20000 in
theorem i18_59 : ex_ X d 18 59 [v0, v1, v2, .int x, v4] [w0] h Q = ex_ X d 18 60 [v0, v1, v2, .int x, v4] [.int x, w0] h Q := ex_nx (show mx_at 18 59 = some (.iload_n 3, 1) by decide +kernel) rfl
set_option maxRecDepth 20000 in
theorem i18_60 : ex_ X d 18 60 [v0, v1, v2, v3, .int x] [w0, w1] h Q = ex_ X d 18 62 [v0, v1, v2, v3, .int x] [.int x, w0, w1] h Q := ex_nx (show mx_at 18 60 = some (.iload 4, 2) by decide +kernel) rfl
set_option maxRecDepth 20000 in
theorem i18_62 (hc : co_ h a = some 3) : ex_ X (d + 1) 18 62 [v0, v1, v2, v3, v4] [.int x1, .int x0, .ref a] h Q = ev_ X d 17 [.ref a, .int x0, .int x1] h (fun r h' => ex_ X (d + 1) 18 65 [v0, v1, v2, v3, v4] (r.toList ++ []) h' Q) := R_vir (show mx_at 18 62 = some (.invokevirtual 111, 3) by decide +kernel) (mx_clk ow18 cc3_111) (Nat.le_of_ble_eq_true rfl) rfl rfl hc rfl (Nat.le_of_ble_eq_true rfl) (Nat.le_of_ble_eq_true rfl) (by rw [ml17]; exact Nat.le_of_ble_eq_true rfl)
set_option maxRecDepth 20000 in
theorem i18_65 : ex_ X d 18 65 [v0, v1, v2, v3, v4] [.int x] h Q = if x = 0 then ex_ X d 18 73 [v0, v1, v2, v3, v4] [] h Q else ex_ X d 18 68 [v0, v1, v2, v3, v4] [] h Q := (R_br (show mx_at 18 65 = some (.ifCond .eq 8, 3) by decide +kernel) rfl rfl).trans mx_ite
set_option maxRecDepth 20000 in
theorem i18_68 : ex_ X d 18 68 [v0, v1, v2, v3, .int x] [] h Q = ex_ X d 18 70 [v0, v1, v2, v3, .int x] [.int x] h Q := ex_nx (show mx_at 18 68 = some (.iload 4, 2) by decide +kernel) rfl
set_option maxRecDepth 20000 in
theorem i18_70 : ex_ X d 18 70 [v0, v1, v2, v3, v4] [w0] h Q = ex_ X d 18 74 [v0, v1, v2, v3, v4] [w0] h Q := R_to (show mx_at 18 70 = some (.goto 4, 3) by decide +kernel) rfl rfl
set_option maxRecDepth 20000 in
theorem i18_73 : ex_ X d 18 73 [v0, v1, v2, .int x, v4] [] h Q = ex_ X d 18 74 [v0, v1, v2, .int x, v4] [.int x] h Q := ex_nx (show mx_at 18 73 = some (.iload_n 3, 1) by decide +kernel) rfl
set_option maxRecDepth 20000 in
theorem i18_74 : ex_ X d 18 74 [v0, v1, v2, v3, v4] [.int x] h Q = Q (some (.int x)) h := ex_ret (show mx_at 18 74 = some (.ireturn, 1) by decide +kernel) (mx_retI rt18)
theorem i18_e : ev_ X d 18 [.ref a, .int x0] h Q = ex_ X d 18 0 [.ref a, .int x0, .double 0, .double 0, .double 0] [] h Q := by rw [ev_, ml18]; rfl
-- 19 X3_cutSlate
set_option maxRecDepth 20000 in
theorem i19_0 : ex_ X d 19 0 [.ref a, v1, v2] [] h Q = ex_ X d 19 1 [.ref a, v1, v2] [.ref a] h Q := ex_nx (show mx_at 19 0 = some (.aload_n 0, 1) by decide +kernel) rfl
set_option maxRecDepth 20000 in
theorem i19_1 : ex_ X d 19 1 [v0, v1, v2] [.ref a] h Q = (gk_ h a 10 [(3, 0)] = true ∧ ex_ X d 19 4 [v0, v1, v2] [gv_ h a 10] h Q) := R_getf (show mx_at 19 1 = some (.getfield 37, 3) by decide +kernel) (mx_fdo ow19 fd30037)
set_option maxRecDepth 20000 in
theorem i19_4 : ex_ X d 19 4 [v0, .int x, v2] [w0] h Q = ex_ X d 19 5 [v0, .int x, v2] [.int x, w0] h Q := ex_nx (show mx_at 19 4 = some (.iload_n 1, 1) by decide +kernel) rfl
set_option maxRecDepth 20000 in
theorem i19_5 : ex_ X d 19 5 [v0, v1, v2] [.int i, .ref a] h Q = (ik_ h a i = true ∧ ex_ X d 19 6 [v0, v1, v2] [.int (ia_ h a i)] h Q) := R_iald (show mx_at 19 5 = some (.iaload, 1) by decide +kernel)
set_option maxRecDepth 20000 in
theorem i19_6 : ex_ X d 19 6 [v0, v1, v2] [.int x] h Q = if x < 0 then ex_ X d 19 27 [v0, v1, v2] [] h Q else ex_ X d 19 9 [v0, v1, v2] [] h Q := (R_br (show mx_at 19 6 = some (.ifCond .lt 21, 3) by decide +kernel) rfl rfl).trans mx_ite
set_option maxRecDepth 20000 in
theorem i19_9 : ex_ X d 19 9 [.ref a, v1, v2] [] h Q = ex_ X d 19 10 [.ref a, v1, v2] [.ref a] h Q := ex_nx (show mx_at 19 9 = some (.aload_n 0, 1) by decide +kernel) rfl
set_option maxRecDepth 20000 in
theorem i19_10 : ex_ X d 19 10 [v0, v1, v2] [.ref a] h Q = (gk_ h a 10 [(3, 0)] = true ∧ ex_ X d 19 13 [v0, v1, v2] [gv_ h a 10] h Q) := R_getf (show mx_at 19 10 = some (.getfield 37, 3) by decide +kernel) (mx_fdo ow19 fd30037)
set_option maxRecDepth 20000 in
theorem i19_13 : ex_ X d 19 13 [v0, .int x, v2] [w0] h Q = ex_ X d 19 14 [v0, .int x, v2] [.int x, w0] h Q := ex_nx (show mx_at 19 13 = some (.iload_n 1, 1) by decide +kernel) rfl
set_option maxRecDepth 20000 in
theorem i19_14 : ex_ X d 19 14 [.ref a, v1, v2] [w0, w1] h Q = ex_ X d 19 15 [.ref a, v1, v2] [.ref a, w0, w1] h Q := ex_nx (show mx_at 19 14 = some (.aload_n 0, 1) by decide +kernel) rfl
set_option maxRecDepth 20000 in
theorem i19_15 : ex_ X d 19 15 [v0, v1, v2] [.ref a, w0, w1] h Q = (gk_ h a 10 [(3, 0)] = true ∧ ex_ X d 19 18 [v0, v1, v2] [gv_ h a 10, w0, w1] h Q) := R_getf (show mx_at 19 15 = some (.getfield 37, 3) by decide +kernel) (mx_fdo ow19 fd30037)
set_option maxRecDepth 20000 in
theorem i19_18 : ex_ X d 19 18 [v0, .int x, v2] [w0, w1, w2] h Q = ex_ X d 19 19 [v0, .int x, v2] [.int x, w0, w1, w2] h Q := ex_nx (show mx_at 19 18 = some (.iload_n 1, 1) by decide +kernel) rfl
set_option maxRecDepth 20000 in
theorem i19_19 : ex_ X d 19 19 [v0, v1, v2] [.int i, .ref a, w0, w1] h Q = (ik_ h a i = true ∧ ex_ X d 19 20 [v0, v1, v2] [.int (ia_ h a i), w0, w1] h Q) := R_iald (show mx_at 19 19 = some (.iaload, 1) by decide +kernel)
set_option maxRecDepth 20000 in
theorem i19_20 : ex_ X d 19 20 [v0, v1, .int x] [w0, w1, w2] h Q = ex_ X d 19 21 [v0, v1, .int x] [.int x, w0, w1, w2] h Q := ex_nx (show mx_at 19 20 = some (.iload_n 2, 1) by decide +kernel) rfl
set_option maxRecDepth 20000 in
theorem i19_21 : ex_ X d 19 21 [v0, v1, v2] [.int y, .int x, w0, w1] h Q = ex_ X d 19 22 [v0, v1, v2] [.int (x - y), w0, w1] h Q := ex_nx (show mx_at 19 21 = some (.isub, 1) by decide +kernel) rfl
set_option maxRecDepth 20000 in
theorem i19_22 : ex_ X d 19 22 [v0, v1, v2] [w0, w1, w2] h Q = ex_ X d 19 23 [v0, v1, v2] [.int 0, w0, w1, w2] h Q := R_iconst (show mx_at 19 22 = some (.iconst 0, 1) by decide +kernel) (by decide)
set_option maxRecDepth 20000 in
theorem i19_23 : ex_ X (d + 1) 19 23 [v0, v1, v2] [.int y, .int x, w0, w1] h Q = ex_ X (d + 1) 19 26 [v0, v1, v2] [.int (if x < y then y else x), w0, w1] h Q := R_max (show mx_at 19 23 = some (.invokestatic 114, 3) by decide +kernel) (mx_clk ow19 cc3_114) (Nat.le_of_ble_eq_true rfl)
set_option maxRecDepth 20000 in
theorem i19_26 : ex_ X d 19 26 [v0, v1, v2] [.int x, .int i, .ref a] h Q = (ik_ h a i = true ∧ ex_ X d 19 27 [v0, v1, v2] [] (is_ h a i x) Q) := R_iast (show mx_at 19 26 = some (.iastore, 1) by decide +kernel)
set_option maxRecDepth 20000 in
theorem i19_27 : ex_ X d 19 27 [v0, v1, v2] [] h Q = Q none h := ex_ret (show mx_at 19 27 = some (.return_, 1) by decide +kernel) (mx_retV rt19)
theorem i19_e : ev_ X d 19 [.ref a, .int x0, .int x1] h Q = ex_ X d 19 0 [.ref a, .int x0, .int x1] [] h Q := by rw [ev_, ml19]; rfl
-- 20 X3_goBy
set_option maxRecDepth 20000 in
theorem i20_0 : ex_ X d 20 0 [v0, v1, v2, v3] [] h Q = ex_ X d 20 1 [v0, v1, v2, v3] [.int 0] h Q := R_iconst (show mx_at 20 0 = some (.iconst 0, 1) by decide +kernel) (by decide)
set_option maxRecDepth 20000 in
theorem i20_1 : ex_ X d 20 1 [v0, v1, v2, v3] [.int x] h Q = (mx_nl v1 = true ∧ ex_ X d 20 2 [v0, v1, .int x, v3] [] h Q) := mx_t1 (R_st (ok := mx_isI) (n := 2) (w := 1) (show mx_at 20 1 = some (.istore_n 2, 1) by decide +kernel) (fun _ _ => rfl) (Nat.le_of_ble_eq_true rfl)) rfl
set_option maxRecDepth 20000 in
theorem i20_2 : ex_ X d 20 2 [v0, v1, .int x, v3] [] h Q = ex_ X d 20 3 [v0, v1, .int x, v3] [.int x] h Q := ex_nx (show mx_at 20 2 = some (.iload_n 2, 1) by decide +kernel) rfl
set_option maxRecDepth 20000 in
theorem i20_3 : ex_ X d 20 3 [v0, .int x, v2, v3] [w0] h Q = ex_ X d 20 4 [v0, .int x, v2, v3] [.int x, w0] h Q := ex_nx (show mx_at 20 3 = some (.iload_n 1, 1) by decide +kernel) rfl
set_option maxRecDepth 20000 in
theorem i20_4 : ex_ X d 20 4 [v0, v1, v2, v3] [.int y, .int x] h Q = if y ≤ x then ex_ X d 20 52 [v0, v1, v2, v3] [] h Q else ex_ X d 20 7 [v0, v1, v2, v3] [] h Q := (R_br (show mx_at 20 4 = some (.if_icmp .ge 48, 3) by decide +kernel) rfl rfl).trans mx_ite
set_option maxRecDepth 20000 in
theorem i20_7 : ex_ X d 20 7 [.ref a, v1, v2, v3] [] h Q = ex_ X d 20 8 [.ref a, v1, v2, v3] [.ref a] h Q := ex_nx (show mx_at 20 7 = some (.aload_n 0, 1) by decide +kernel) rfl
set_option maxRecDepth 20000 in
theorem i20_8 (hc : co_ h a = some 3) : ex_ X (d + 1) 20 8 [v0, v1, v2, v3] [.ref a] h Q = ev_ X d 21 [.ref a] h (fun r h' => ex_ X (d + 1) 20 11 [v0, v1, v2, v3] (r.toList ++ []) h' Q) := R_vir (show mx_at 20 8 = some (.invokevirtual 119, 3) by decide +kernel) (mx_clk ow20 cc3_119) (Nat.le_of_ble_eq_true rfl) rfl rfl hc rfl (Nat.le_of_ble_eq_true rfl) (Nat.le_of_ble_eq_true rfl) (by rw [ml21]; exact Nat.le_of_ble_eq_true rfl)
set_option maxRecDepth 20000 in
theorem i20_11 : ex_ X d 20 11 [.ref a, v1, v2, v3] [] h Q = ex_ X d 20 12 [.ref a, v1, v2, v3] [.ref a] h Q := ex_nx (show mx_at 20 11 = some (.aload_n 0, 1) by decide +kernel) rfl
set_option maxRecDepth 20000 in
theorem i20_12 (hc : co_ h a = some 3) : ex_ X (d + 1) 20 12 [v0, v1, v2, v3] [.ref a] h Q = ev_ X d 22 [.ref a] h (fun r h' => ex_ X (d + 1) 20 15 [v0, v1, v2, v3] (r.toList ++ []) h' Q) := R_vir (show mx_at 20 12 = some (.invokevirtual 122, 3) by decide +kernel) (mx_clk ow20 cc3_122) (Nat.le_of_ble_eq_true rfl) rfl rfl hc rfl (Nat.le_of_ble_eq_true rfl) (Nat.le_of_ble_eq_true rfl) (by rw [ml22]; exact Nat.le_of_ble_eq_true rfl)
set_option maxRecDepth 20000 in
theorem i20_15 : ex_ X d 20 15 [v0, v1, v2, v3] [] h Q = ex_ X d 20 16 [v0, v1, v2, v3] [.int 0] h Q := R_iconst (show mx_at 20 15 = some (.iconst 0, 1) by decide +kernel) (by decide)
set_option maxRecDepth 20000 in
theorem i20_16 : ex_ X d 20 16 [v0, v1, v2, v3] [.int x] h Q = (mx_nl v2 = true ∧ ex_ X d 20 17 [v0, v1, v2, .int x] [] h Q) := mx_t1 (R_st (ok := mx_isI) (n := 3) (w := 1) (show mx_at 20 16 = some (.istore_n 3, 1) by decide +kernel) (fun _ _ => rfl) (Nat.le_of_ble_eq_true rfl)) rfl
set_option maxRecDepth 20000 in
theorem i20_17 : ex_ X d 20 17 [v0, v1, v2, .int x] [] h Q = ex_ X d 20 18 [v0, v1, v2, .int x] [.int x] h Q := ex_nx (show mx_at 20 17 = some (.iload_n 3, 1) by decide +kernel) rfl
set_option maxRecDepth 20000 in
theorem i20_18 : ex_ X d 20 18 [.ref a, v1, v2, v3] [w0] h Q = ex_ X d 20 19 [.ref a, v1, v2, v3] [.ref a, w0] h Q := ex_nx (show mx_at 20 18 = some (.aload_n 0, 1) by decide +kernel) rfl
set_option maxRecDepth 20000 in
theorem i20_19 : ex_ X d 20 19 [v0, v1, v2, v3] [.ref a, w0] h Q = (gk_ h a 12 [(3, 0)] = true ∧ ex_ X d 20 22 [v0, v1, v2, v3] [gv_ h a 12, w0] h Q) := R_getf (show mx_at 20 19 = some (.getfield 74, 3) by decide +kernel) (mx_fdo ow20 fd30074)
set_option maxRecDepth 20000 in
theorem i20_22 : ex_ X d 20 22 [v0, v1, v2, v3] [.int y, .int x] h Q = if y ≤ x then ex_ X d 20 36 [v0, v1, v2, v3] [] h Q else ex_ X d 20 25 [v0, v1, v2, v3] [] h Q := (R_br (show mx_at 20 22 = some (.if_icmp .ge 14, 3) by decide +kernel) rfl rfl).trans mx_ite
set_option maxRecDepth 20000 in
theorem i20_25 : ex_ X d 20 25 [.ref a, v1, v2, v3] [] h Q = ex_ X d 20 26 [.ref a, v1, v2, v3] [.ref a] h Q := ex_nx (show mx_at 20 25 = some (.aload_n 0, 1) by decide +kernel) rfl
set_option maxRecDepth 20000 in
theorem i20_26 : ex_ X d 20 26 [v0, v1, v2, .int x] [w0] h Q = ex_ X d 20 27 [v0, v1, v2, .int x] [.int x, w0] h Q := ex_nx (show mx_at 20 26 = some (.iload_n 3, 1) by decide +kernel) rfl
set_option maxRecDepth 20000 in
theorem i20_27 (hc : co_ h a = some 3) : ex_ X (d + 1) 20 27 [v0, v1, v2, v3] [.int x0, .ref a] h Q = ev_ X d 23 [.ref a, .int x0] h (fun r h' => ex_ X (d + 1) 20 30 [v0, v1, v2, v3] (r.toList ++ []) h' Q) := R_vir (show mx_at 20 27 = some (.invokevirtual 125, 3) by decide +kernel) (mx_clk ow20 cc3_125) (Nat.le_of_ble_eq_true rfl) rfl rfl hc rfl (Nat.le_of_ble_eq_true rfl) (Nat.le_of_ble_eq_true rfl) (by rw [ml23]; exact Nat.le_of_ble_eq_true rfl)
set_option maxRecDepth 20000 in
theorem i20_30 : ex_ X d 20 30 [v0, v1, v2, .int x] [] h Q = (mx_nl v2 = true ∧ ex_ X d 20 33 [v0, v1, v2, .int (x + 1)] [] h Q) := R_iinc (n := 3) (c := 1) (show mx_at 20 30 = some (.iinc 3 1, 3) by decide +kernel) rfl
set_option maxRecDepth 20000 in
theorem i20_33 : ex_ X d 20 33 [v0, v1, v2, v3] [] h Q = ex_ X d 20 17 [v0, v1, v2, v3] [] h Q := R_to (show mx_at 20 33 = some (.goto (-16), 3) by decide +kernel) rfl rfl
set_option maxRecDepth 20000 in
theorem i20_36 : ex_ X d 20 36 [.ref a, v1, v2, v3] [] h Q = ex_ X d 20 37 [.ref a, v1, v2, v3] [.ref a] h Q := ex_nx (show mx_at 20 36 = some (.aload_n 0, 1) by decide +kernel) rfl
set_option maxRecDepth 20000 in
theorem i20_37 : ex_ X d 20 37 [v0, v1, v2, v3] [.ref a] h Q = ex_ X d 20 38 [v0, v1, v2, v3] [.ref a, .ref a] h Q := ex_nx (show mx_at 20 37 = some (.dup, 1) by decide +kernel) rfl
set_option maxRecDepth 20000 in
theorem i20_38 : ex_ X d 20 38 [v0, v1, v2, v3] [.ref a, w0] h Q = (gk_ h a 0 [(3, 0)] = true ∧ ex_ X d 20 41 [v0, v1, v2, v3] [gv_ h a 0, w0] h Q) := R_getf (show mx_at 20 38 = some (.getfield 55, 3) by decide +kernel) (mx_fdo ow20 fd30055)
set_option maxRecDepth 20000 in
theorem i20_41 : ex_ X d 20 41 [v0, v1, v2, v3] [w0, w1] h Q = ex_ X d 20 42 [v0, v1, v2, v3] [.int 1, w0, w1] h Q := R_iconst (show mx_at 20 41 = some (.iconst 1, 1) by decide +kernel) (by decide)
set_option maxRecDepth 20000 in
theorem i20_42 : ex_ X d 20 42 [v0, v1, v2, v3] [.int y, .int x, w0] h Q = ex_ X d 20 43 [v0, v1, v2, v3] [.int (x + y), w0] h Q := ex_nx (show mx_at 20 42 = some (.iadd, 1) by decide +kernel) rfl
set_option maxRecDepth 20000 in
theorem i20_43 : ex_ X d 20 43 [v0, v1, v2, v3] [w, .ref a] h Q = (pk_ 20 h a 0 w [(3, 0)] = true ∧ ex_ X d 20 46 [v0, v1, v2, v3] [] (pf_ h a 0 w) Q) := R_putf (show mx_at 20 43 = some (.putfield 55, 3) by decide +kernel) (mx_fdo ow20 fd30055)
set_option maxRecDepth 20000 in
theorem i20_46 : ex_ X d 20 46 [v0, v1, .int x, v3] [] h Q = (mx_nl v1 = true ∧ ex_ X d 20 49 [v0, v1, .int (x + 1), v3] [] h Q) := R_iinc (n := 2) (c := 1) (show mx_at 20 46 = some (.iinc 2 1, 3) by decide +kernel) rfl
set_option maxRecDepth 20000 in
theorem i20_49 : ex_ X d 20 49 [v0, v1, v2, v3] [] h Q = ex_ X d 20 2 [v0, v1, v2, v3] [] h Q := R_to (show mx_at 20 49 = some (.goto (-47), 3) by decide +kernel) rfl rfl
set_option maxRecDepth 20000 in
theorem i20_52 : ex_ X d 20 52 [v0, v1, v2, v3] [] h Q = Q none h := ex_ret (show mx_at 20 52 = some (.return_, 1) by decide +kernel) (mx_retV rt20)
theorem i20_e : ev_ X d 20 [.ref a, .int x0] h Q = ex_ X d 20 0 [.ref a, .int x0, .double 0, .double 0] [] h Q := by rw [ev_, ml20]; rfl
-- 21 X3_askAll
set_option maxRecDepth 20000 in
theorem i21_0 : ex_ X d 21 0 [v0, v1, v2] [] h Q = ex_ X d 21 1 [v0, v1, v2] [.int 0] h Q := R_iconst (show mx_at 21 0 = some (.iconst 0, 1) by decide +kernel) (by decide)
set_option maxRecDepth 20000 in
theorem i21_1 : ex_ X d 21 1 [v0, v1, v2] [.int x] h Q = (mx_nl v0 = true ∧ ex_ X d 21 2 [v0, .int x, v2] [] h Q) := mx_t1 (R_st (ok := mx_isI) (n := 1) (w := 1) (show mx_at 21 1 = some (.istore_n 1, 1) by decide +kernel) (fun _ _ => rfl) (Nat.le_of_ble_eq_true rfl)) rfl
set_option maxRecDepth 20000 in
theorem i21_2 : ex_ X d 21 2 [v0, .int x, v2] [] h Q = ex_ X d 21 3 [v0, .int x, v2] [.int x] h Q := ex_nx (show mx_at 21 2 = some (.iload_n 1, 1) by decide +kernel) rfl
set_option maxRecDepth 20000 in
theorem i21_3 : ex_ X d 21 3 [.ref a, v1, v2] [w0] h Q = ex_ X d 21 4 [.ref a, v1, v2] [.ref a, w0] h Q := ex_nx (show mx_at 21 3 = some (.aload_n 0, 1) by decide +kernel) rfl
set_option maxRecDepth 20000 in
theorem i21_4 : ex_ X d 21 4 [v0, v1, v2] [.ref a, w0] h Q = (gk_ h a 7 [(3, 0)] = true ∧ ex_ X d 21 7 [v0, v1, v2] [gv_ h a 7, w0] h Q) := R_getf (show mx_at 21 4 = some (.getfield 71, 3) by decide +kernel) (mx_fdo ow21 fd30071)
set_option maxRecDepth 20000 in
theorem i21_7 : ex_ X d 21 7 [v0, v1, v2] [.int y, .int x] h Q = if y ≤ x then ex_ X d 21 81 [v0, v1, v2] [] h Q else ex_ X d 21 10 [v0, v1, v2] [] h Q := (R_br (show mx_at 21 7 = some (.if_icmp .ge 74, 3) by decide +kernel) rfl rfl).trans mx_ite
set_option maxRecDepth 20000 in
theorem i21_10 : ex_ X d 21 10 [.ref a, v1, v2] [] h Q = ex_ X d 21 11 [.ref a, v1, v2] [.ref a] h Q := ex_nx (show mx_at 21 10 = some (.aload_n 0, 1) by decide +kernel) rfl
set_option maxRecDepth 20000 in
theorem i21_11 : ex_ X d 21 11 [v0, v1, v2] [.ref a] h Q = (gk_ h a 6 [(3, 0)] = true ∧ ex_ X d 21 14 [v0, v1, v2] [gv_ h a 6] h Q) := R_getf (show mx_at 21 11 = some (.getfield 27, 3) by decide +kernel) (mx_fdo ow21 fd30027)
set_option maxRecDepth 20000 in
theorem i21_14 : ex_ X d 21 14 [v0, .int x, v2] [w0] h Q = ex_ X d 21 15 [v0, .int x, v2] [.int x, w0] h Q := ex_nx (show mx_at 21 14 = some (.iload_n 1, 1) by decide +kernel) rfl
set_option maxRecDepth 20000 in
theorem i21_15 : ex_ X d 21 15 [v0, v1, v2] [.int i, .ref a] h Q = (rk_ h a i = true ∧ ex_ X d 21 16 [v0, v1, v2] [mx_vr (ra_ h a i)] h Q) := R_aald (show mx_at 21 15 = some (.aaload, 1) by decide +kernel)
set_option maxRecDepth 20000 in
theorem i21_16 : ex_ X d 21 16 [v0, v1, v2] [.ref a] h Q = (mx_nl v1 = true ∧ ex_ X d 21 17 [v0, v1, .ref a] [] h Q) := mx_t1 (R_st (ok := mx_isA) (n := 2) (w := 1) (show mx_at 21 16 = some (.astore_n 2, 1) by decide +kernel) (fun _ _ => rfl) (Nat.le_of_ble_eq_true rfl)) rfl
set_option maxRecDepth 20000 in
theorem i21_17 : ex_ X d 21 17 [.ref a, v1, v2] [] h Q = ex_ X d 21 18 [.ref a, v1, v2] [.ref a] h Q := ex_nx (show mx_at 21 17 = some (.aload_n 0, 1) by decide +kernel) rfl
set_option maxRecDepth 20000 in
theorem i21_18 : ex_ X d 21 18 [v0, v1, v2] [.ref a] h Q = (gk_ h a 8 [(3, 0)] = true ∧ ex_ X d 21 21 [v0, v1, v2] [gv_ h a 8] h Q) := R_getf (show mx_at 21 18 = some (.getfield 31, 3) by decide +kernel) (mx_fdo ow21 fd30031)
set_option maxRecDepth 20000 in
theorem i21_21 : ex_ X d 21 21 [v0, .int x, v2] [w0] h Q = ex_ X d 21 22 [v0, .int x, v2] [.int x, w0] h Q := ex_nx (show mx_at 21 21 = some (.iload_n 1, 1) by decide +kernel) rfl
set_option maxRecDepth 20000 in
theorem i21_22 : ex_ X d 21 22 [.ref a, v1, v2] [w0, w1] h Q = ex_ X d 21 23 [.ref a, v1, v2] [.ref a, w0, w1] h Q := ex_nx (show mx_at 21 22 = some (.aload_n 0, 1) by decide +kernel) rfl
set_option maxRecDepth 20000 in
theorem i21_23 : ex_ X d 21 23 [v0, v1, v2] [.ref a, w0, w1] h Q = (gk_ h a 8 [(3, 0)] = true ∧ ex_ X d 21 26 [v0, v1, v2] [gv_ h a 8, w0, w1] h Q) := R_getf (show mx_at 21 23 = some (.getfield 31, 3) by decide +kernel) (mx_fdo ow21 fd30031)
set_option maxRecDepth 20000 in
theorem i21_26 : ex_ X d 21 26 [v0, .int x, v2] [w0, w1, w2] h Q = ex_ X d 21 27 [v0, .int x, v2] [.int x, w0, w1, w2] h Q := ex_nx (show mx_at 21 26 = some (.iload_n 1, 1) by decide +kernel) rfl
set_option maxRecDepth 20000 in
theorem i21_27 : ex_ X d 21 27 [v0, v1, v2] [.int i, .ref a, w0, w1] h Q = (ik_ h a i = true ∧ ex_ X d 21 28 [v0, v1, v2] [.int (ia_ h a i), w0, w1] h Q) := R_iald (show mx_at 21 27 = some (.iaload, 1) by decide +kernel)
set_option maxRecDepth 20000 in
theorem i21_28 : ex_ X d 21 28 [v0, v1, .ref a] [w0, w1, w2] h Q = ex_ X d 21 29 [v0, v1, .ref a] [.ref a, w0, w1, w2] h Q := ex_nx (show mx_at 21 28 = some (.aload_n 2, 1) by decide +kernel) rfl
set_option maxRecDepth 20000 in
theorem i21_29 : ex_ X d 21 29 [v0, v1, v2] [.ref a, w0, w1, w2] h Q = (gk_ h a 4 [(0, 0), (1, 0), (2, 0), (4, 0), (6, 0), (8, 0), (9, 0)] = true ∧ ex_ X d 21 32 [v0, v1, v2] [gv_ h a 4, w0, w1, w2] h Q) := R_getf (show mx_at 21 29 = some (.getfield 86, 3) by decide +kernel) (mx_fdo ow21 fd30086)
set_option maxRecDepth 20000 in
theorem i21_32 : ex_ X d 21 32 [v0, v1, v2] [.int y, .int x, w0, w1] h Q = ex_ X d 21 33 [v0, v1, v2] [.int (x + y), w0, w1] h Q := ex_nx (show mx_at 21 32 = some (.iadd, 1) by decide +kernel) rfl
set_option maxRecDepth 20000 in
theorem i21_33 : ex_ X d 21 33 [v0, v1, v2] [w0, w1, w2] h Q = ex_ X d 21 35 [v0, v1, v2] [.int 99, w0, w1, w2] h Q := R_bipush (show mx_at 21 33 = some (.bipush 99, 2) by decide +kernel) (by decide)
set_option maxRecDepth 20000 in
theorem i21_35 : ex_ X (d + 1) 21 35 [v0, v1, v2] [.int y, .int x, w0, w1] h Q = ex_ X (d + 1) 21 38 [v0, v1, v2] [.int (if y < x then y else x), w0, w1] h Q := R_min (show mx_at 21 35 = some (.invokestatic 129, 3) by decide +kernel) (mx_clk ow21 cc3_129) (Nat.le_of_ble_eq_true rfl)
set_option maxRecDepth 20000 in
theorem i21_38 : ex_ X d 21 38 [v0, v1, v2] [.int x, .int i, .ref a] h Q = (ik_ h a i = true ∧ ex_ X d 21 39 [v0, v1, v2] [] (is_ h a i x) Q) := R_iast (show mx_at 21 38 = some (.iastore, 1) by decide +kernel)
set_option maxRecDepth 20000 in
theorem i21_39 : ex_ X d 21 39 [.ref a, v1, v2] [] h Q = ex_ X d 21 40 [.ref a, v1, v2] [.ref a] h Q := ex_nx (show mx_at 21 39 = some (.aload_n 0, 1) by decide +kernel) rfl
set_option maxRecDepth 20000 in
theorem i21_40 : ex_ X d 21 40 [v0, v1, v2] [.ref a] h Q = (gk_ h a 9 [(3, 0)] = true ∧ ex_ X d 21 43 [v0, v1, v2] [gv_ h a 9] h Q) := R_getf (show mx_at 21 40 = some (.getfield 34, 3) by decide +kernel) (mx_fdo ow21 fd30034)
set_option maxRecDepth 20000 in
theorem i21_43 : ex_ X d 21 43 [v0, .int x, v2] [w0] h Q = ex_ X d 21 44 [v0, .int x, v2] [.int x, w0] h Q := ex_nx (show mx_at 21 43 = some (.iload_n 1, 1) by decide +kernel) rfl
set_option maxRecDepth 20000 in
theorem i21_44 : ex_ X d 21 44 [.ref a, v1, v2] [w0, w1] h Q = ex_ X d 21 45 [.ref a, v1, v2] [.ref a, w0, w1] h Q := ex_nx (show mx_at 21 44 = some (.aload_n 0, 1) by decide +kernel) rfl
set_option maxRecDepth 20000 in
theorem i21_45 : ex_ X d 21 45 [v0, v1, v2] [.ref a, w0, w1] h Q = (gk_ h a 9 [(3, 0)] = true ∧ ex_ X d 21 48 [v0, v1, v2] [gv_ h a 9, w0, w1] h Q) := R_getf (show mx_at 21 45 = some (.getfield 34, 3) by decide +kernel) (mx_fdo ow21 fd30034)
set_option maxRecDepth 20000 in
theorem i21_48 : ex_ X d 21 48 [v0, .int x, v2] [w0, w1, w2] h Q = ex_ X d 21 49 [v0, .int x, v2] [.int x, w0, w1, w2] h Q := ex_nx (show mx_at 21 48 = some (.iload_n 1, 1) by decide +kernel) rfl
set_option maxRecDepth 20000 in
theorem i21_49 : ex_ X d 21 49 [v0, v1, v2] [.int i, .ref a, w0, w1] h Q = (ik_ h a i = true ∧ ex_ X d 21 50 [v0, v1, v2] [.int (ia_ h a i), w0, w1] h Q) := R_iald (show mx_at 21 49 = some (.iaload, 1) by decide +kernel)
set_option maxRecDepth 20000 in
theorem i21_50 : ex_ X d 21 50 [v0, v1, .ref a] [w0, w1, w2] h Q = ex_ X d 21 51 [v0, v1, .ref a] [.ref a, w0, w1, w2] h Q := ex_nx (show mx_at 21 50 = some (.aload_n 2, 1) by decide +kernel) rfl
set_option maxRecDepth 20000 in
theorem i21_51 : ex_ X d 21 51 [v0, v1, v2] [.ref a, w0, w1, w2] h Q = (gk_ h a 3 [(0, 0), (1, 0), (2, 0), (4, 0), (6, 0), (8, 0), (9, 0)] = true ∧ ex_ X d 21 54 [v0, v1, v2] [gv_ h a 3, w0, w1, w2] h Q) := R_getf (show mx_at 21 51 = some (.getfield 83, 3) by decide +kernel) (mx_fdo ow21 fd30083)
set_option maxRecDepth 20000 in
theorem i21_54 : ex_ X d 21 54 [v0, v1, .ref a] [w0, w1, w2, w3] h Q = ex_ X d 21 55 [v0, v1, .ref a] [.ref a, w0, w1, w2, w3] h Q := ex_nx (show mx_at 21 54 = some (.aload_n 2, 1) by decide +kernel) rfl
set_option maxRecDepth 20000 in
theorem i21_55 : ex_ X d 21 55 [v0, v1, v2] [.ref a, w0, w1, w2, w3] h Q = (gk_ h a 4 [(0, 0), (1, 0), (2, 0), (4, 0), (6, 0), (8, 0), (9, 0)] = true ∧ ex_ X d 21 58 [v0, v1, v2] [gv_ h a 4, w0, w1, w2, w3] h Q) := R_getf (show mx_at 21 55 = some (.getfield 86, 3) by decide +kernel) (mx_fdo ow21 fd30086)
set_option maxRecDepth 20000 in
theorem i21_58 : ex_ X d 21 58 [v0, v1, v2] [.int y, .int x, w0, w1, w2] h Q = ex_ X d 21 59 [v0, v1, v2] [.int (x * y), w0, w1, w2] h Q := ex_nx (show mx_at 21 58 = some (.imul, 1) by decide +kernel) rfl
set_option maxRecDepth 20000 in
theorem i21_59 : ex_ X d 21 59 [v0, v1, v2] [.int y, .int x, w0, w1] h Q = ex_ X d 21 60 [v0, v1, v2] [.int (x - y), w0, w1] h Q := ex_nx (show mx_at 21 59 = some (.isub, 1) by decide +kernel) rfl
set_option maxRecDepth 20000 in
theorem i21_60 : ex_ X (d + 1) 21 60 [v0, v1, v2] [.int x0, w0, w1] h Q = ev_ X d 29 [.int x0] h (fun r h' => ex_ X (d + 1) 21 63 [v0, v1, v2] (r.toList ++ [w0, w1]) h' Q) := R_stat (show mx_at 21 60 = some (.invokestatic 132, 3) by decide +kernel) (mx_clk ow21 cc3_132) (Nat.le_of_ble_eq_true rfl) rfl rfl (Nat.le_of_ble_eq_true rfl) ml29 (Nat.le_of_ble_eq_true rfl)
set_option maxRecDepth 20000 in
theorem i21_63 : ex_ X d 21 63 [v0, v1, v2] [.int x, .int i, .ref a] h Q = (ik_ h a i = true ∧ ex_ X d 21 64 [v0, v1, v2] [] (is_ h a i x) Q) := R_iast (show mx_at 21 63 = some (.iastore, 1) by decide +kernel)
set_option maxRecDepth 20000 in
theorem i21_64 : ex_ X d 21 64 [.ref a, v1, v2] [] h Q = ex_ X d 21 65 [.ref a, v1, v2] [.ref a] h Q := ex_nx (show mx_at 21 64 = some (.aload_n 0, 1) by decide +kernel) rfl
set_option maxRecDepth 20000 in
theorem i21_65 : ex_ X d 21 65 [v0, v1, v2] [.ref a] h Q = (gk_ h a 10 [(3, 0)] = true ∧ ex_ X d 21 68 [v0, v1, v2] [gv_ h a 10] h Q) := R_getf (show mx_at 21 65 = some (.getfield 37, 3) by decide +kernel) (mx_fdo ow21 fd30037)
set_option maxRecDepth 20000 in
theorem i21_68 : ex_ X d 21 68 [v0, .int x, v2] [w0] h Q = ex_ X d 21 69 [v0, .int x, v2] [.int x, w0] h Q := ex_nx (show mx_at 21 68 = some (.iload_n 1, 1) by decide +kernel) rfl
set_option maxRecDepth 20000 in
theorem i21_69 : ex_ X d 21 69 [.ref a, v1, v2] [w0, w1] h Q = ex_ X d 21 70 [.ref a, v1, v2] [.ref a, w0, w1] h Q := ex_nx (show mx_at 21 69 = some (.aload_n 0, 1) by decide +kernel) rfl
set_option maxRecDepth 20000 in
theorem i21_70 : ex_ X d 21 70 [v0, .int x, v2] [w0, w1, w2] h Q = ex_ X d 21 71 [v0, .int x, v2] [.int x, w0, w1, w2] h Q := ex_nx (show mx_at 21 70 = some (.iload_n 1, 1) by decide +kernel) rfl
set_option maxRecDepth 20000 in
theorem i21_71 (hc : co_ h a = some 3) : ex_ X (d + 1) 21 71 [v0, v1, v2] [.int x0, .ref a, w0, w1] h Q = ev_ X d 18 [.ref a, .int x0] h (fun r h' => ex_ X (d + 1) 21 74 [v0, v1, v2] (r.toList ++ [w0, w1]) h' Q) := R_vir (show mx_at 21 71 = some (.invokevirtual 97, 3) by decide +kernel) (mx_clk ow21 cc3_97) (Nat.le_of_ble_eq_true rfl) rfl rfl hc rfl (Nat.le_of_ble_eq_true rfl) (Nat.le_of_ble_eq_true rfl) (by rw [ml18]; exact Nat.le_of_ble_eq_true rfl)
set_option maxRecDepth 20000 in
theorem i21_74 : ex_ X d 21 74 [v0, v1, v2] [.int x, .int i, .ref a] h Q = (ik_ h a i = true ∧ ex_ X d 21 75 [v0, v1, v2] [] (is_ h a i x) Q) := R_iast (show mx_at 21 74 = some (.iastore, 1) by decide +kernel)
set_option maxRecDepth 20000 in
theorem i21_75 : ex_ X d 21 75 [v0, .int x, v2] [] h Q = (mx_nl v0 = true ∧ ex_ X d 21 78 [v0, .int (x + 1), v2] [] h Q) := R_iinc (n := 1) (c := 1) (show mx_at 21 75 = some (.iinc 1 1, 3) by decide +kernel) rfl
set_option maxRecDepth 20000 in
theorem i21_78 : ex_ X d 21 78 [v0, v1, v2] [] h Q = ex_ X d 21 2 [v0, v1, v2] [] h Q := R_to (show mx_at 21 78 = some (.goto (-76), 3) by decide +kernel) rfl rfl
set_option maxRecDepth 20000 in
theorem i21_81 : ex_ X d 21 81 [v0, v1, v2] [] h Q = Q none h := ex_ret (show mx_at 21 81 = some (.return_, 1) by decide +kernel) (mx_retV rt21)
theorem i21_e : ev_ X d 21 [.ref a] h Q = ex_ X d 21 0 [.ref a, .double 0, .double 0] [] h Q := by rw [ev_, ml21]; rfl
-- 22 X3_rankByPrice
set_option maxRecDepth 20000 in
theorem i22_0 : ex_ X d 22 0 [v0, v1, v2] [] h Q = ex_ X d 22 1 [v0, v1, v2] [.int 0] h Q := R_iconst (show mx_at 22 0 = some (.iconst 0, 1) by decide +kernel) (by decide)
set_option maxRecDepth 20000 in
theorem i22_1 : ex_ X d 22 1 [v0, v1, v2] [.int x] h Q = (mx_nl v0 = true ∧ ex_ X d 22 2 [v0, .int x, v2] [] h Q) := mx_t1 (R_st (ok := mx_isI) (n := 1) (w := 1) (show mx_at 22 1 = some (.istore_n 1, 1) by decide +kernel) (fun _ _ => rfl) (Nat.le_of_ble_eq_true rfl)) rfl
set_option maxRecDepth 20000 in
theorem i22_2 : ex_ X d 22 2 [v0, .int x, v2] [] h Q = ex_ X d 22 3 [v0, .int x, v2] [.int x] h Q := ex_nx (show mx_at 22 2 = some (.iload_n 1, 1) by decide +kernel) rfl
set_option maxRecDepth 20000 in
theorem i22_3 : ex_ X d 22 3 [.ref a, v1, v2] [w0] h Q = ex_ X d 22 4 [.ref a, v1, v2] [.ref a, w0] h Q := ex_nx (show mx_at 22 3 = some (.aload_n 0, 1) by decide +kernel) rfl
set_option maxRecDepth 20000 in
theorem i22_4 : ex_ X d 22 4 [v0, v1, v2] [.ref a, w0] h Q = (gk_ h a 7 [(3, 0)] = true ∧ ex_ X d 22 7 [v0, v1, v2] [gv_ h a 7, w0] h Q) := R_getf (show mx_at 22 4 = some (.getfield 71, 3) by decide +kernel) (mx_fdo ow22 fd30071)
set_option maxRecDepth 20000 in
theorem i22_7 : ex_ X d 22 7 [v0, v1, v2] [.int y, .int x] h Q = if y ≤ x then ex_ X d 22 71 [v0, v1, v2] [] h Q else ex_ X d 22 10 [v0, v1, v2] [] h Q := (R_br (show mx_at 22 7 = some (.if_icmp .ge 64, 3) by decide +kernel) rfl rfl).trans mx_ite
set_option maxRecDepth 20000 in
theorem i22_10 : ex_ X d 22 10 [v0, .int x, v2] [] h Q = ex_ X d 22 11 [v0, .int x, v2] [.int x] h Q := ex_nx (show mx_at 22 10 = some (.iload_n 1, 1) by decide +kernel) rfl
set_option maxRecDepth 20000 in
theorem i22_11 : ex_ X d 22 11 [v0, v1, v2] [.int x] h Q = (mx_nl v1 = true ∧ ex_ X d 22 12 [v0, v1, .int x] [] h Q) := mx_t1 (R_st (ok := mx_isI) (n := 2) (w := 1) (show mx_at 22 11 = some (.istore_n 2, 1) by decide +kernel) (fun _ _ => rfl) (Nat.le_of_ble_eq_true rfl)) rfl
set_option maxRecDepth 20000 in
theorem i22_12 : ex_ X d 22 12 [v0, v1, .int x] [] h Q = ex_ X d 22 13 [v0, v1, .int x] [.int x] h Q := ex_nx (show mx_at 22 12 = some (.iload_n 2, 1) by decide +kernel) rfl
set_option maxRecDepth 20000 in
theorem i22_13 : ex_ X d 22 13 [v0, v1, v2] [.int x] h Q = if x ≤ 0 then ex_ X d 22 58 [v0, v1, v2] [] h Q else ex_ X d 22 16 [v0, v1, v2] [] h Q := (R_br (show mx_at 22 13 = some (.ifCond .le 45, 3) by decide +kernel) rfl rfl).trans mx_ite
set_option maxRecDepth 20000 in
theorem i22_16 : ex_ X d 22 16 [.ref a, v1, v2] [] h Q = ex_ X d 22 17 [.ref a, v1, v2] [.ref a] h Q := ex_nx (show mx_at 22 16 = some (.aload_n 0, 1) by decide +kernel) rfl
set_option maxRecDepth 20000 in
theorem i22_17 : ex_ X d 22 17 [v0, v1, v2] [.ref a] h Q = (gk_ h a 10 [(3, 0)] = true ∧ ex_ X d 22 20 [v0, v1, v2] [gv_ h a 10] h Q) := R_getf (show mx_at 22 17 = some (.getfield 37, 3) by decide +kernel) (mx_fdo ow22 fd30037)
set_option maxRecDepth 20000 in
theorem i22_20 : ex_ X d 22 20 [.ref a, v1, v2] [w0] h Q = ex_ X d 22 21 [.ref a, v1, v2] [.ref a, w0] h Q := ex_nx (show mx_at 22 20 = some (.aload_n 0, 1) by decide +kernel) rfl
set_option maxRecDepth 20000 in
theorem i22_21 : ex_ X d 22 21 [v0, v1, v2] [.ref a, w0] h Q = (gk_ h a 11 [(3, 0)] = true ∧ ex_ X d 22 24 [v0, v1, v2] [gv_ h a 11, w0] h Q) := R_getf (show mx_at 22 21 = some (.getfield 40, 3) by decide +kernel) (mx_fdo ow22 fd30040)
set_option maxRecDepth 20000 in
theorem i22_24 : ex_ X d 22 24 [v0, v1, .int x] [w0, w1] h Q = ex_ X d 22 25 [v0, v1, .int x] [.int x, w0, w1] h Q := ex_nx (show mx_at 22 24 = some (.iload_n 2, 1) by decide +kernel) rfl
set_option maxRecDepth 20000 in
theorem i22_25 : ex_ X d 22 25 [v0, v1, v2] [w0, w1, w2] h Q = ex_ X d 22 26 [v0, v1, v2] [.int 1, w0, w1, w2] h Q := R_iconst (show mx_at 22 25 = some (.iconst 1, 1) by decide +kernel) (by decide)
set_option maxRecDepth 20000 in
theorem i22_26 : ex_ X d 22 26 [v0, v1, v2] [.int y, .int x, w0, w1] h Q = ex_ X d 22 27 [v0, v1, v2] [.int (x - y), w0, w1] h Q := ex_nx (show mx_at 22 26 = some (.isub, 1) by decide +kernel) rfl
set_option maxRecDepth 20000 in
theorem i22_27 : ex_ X d 22 27 [v0, v1, v2] [.int i, .ref a, w0] h Q = (ik_ h a i = true ∧ ex_ X d 22 28 [v0, v1, v2] [.int (ia_ h a i), w0] h Q) := R_iald (show mx_at 22 27 = some (.iaload, 1) by decide +kernel)
set_option maxRecDepth 20000 in
theorem i22_28 : ex_ X d 22 28 [v0, v1, v2] [.int i, .ref a] h Q = (ik_ h a i = true ∧ ex_ X d 22 29 [v0, v1, v2] [.int (ia_ h a i)] h Q) := R_iald (show mx_at 22 28 = some (.iaload, 1) by decide +kernel)
set_option maxRecDepth 20000 in
theorem i22_29 : ex_ X d 22 29 [.ref a, v1, v2] [w0] h Q = ex_ X d 22 30 [.ref a, v1, v2] [.ref a, w0] h Q := ex_nx (show mx_at 22 29 = some (.aload_n 0, 1) by decide +kernel) rfl
set_option maxRecDepth 20000 in
theorem i22_30 : ex_ X d 22 30 [v0, v1, v2] [.ref a, w0] h Q = (gk_ h a 10 [(3, 0)] = true ∧ ex_ X d 22 33 [v0, v1, v2] [gv_ h a 10, w0] h Q) := R_getf (show mx_at 22 30 = some (.getfield 37, 3) by decide +kernel) (mx_fdo ow22 fd30037)
set_option maxRecDepth 20000 in
theorem i22_33 : ex_ X d 22 33 [v0, .int x, v2] [w0, w1] h Q = ex_ X d 22 34 [v0, .int x, v2] [.int x, w0, w1] h Q := ex_nx (show mx_at 22 33 = some (.iload_n 1, 1) by decide +kernel) rfl
set_option maxRecDepth 20000 in
theorem i22_34 : ex_ X d 22 34 [v0, v1, v2] [.int i, .ref a, w0] h Q = (ik_ h a i = true ∧ ex_ X d 22 35 [v0, v1, v2] [.int (ia_ h a i), w0] h Q) := R_iald (show mx_at 22 34 = some (.iaload, 1) by decide +kernel)
set_option maxRecDepth 20000 in
theorem i22_35 : ex_ X d 22 35 [v0, v1, v2] [.int y, .int x] h Q = if x ≤ y then ex_ X d 22 58 [v0, v1, v2] [] h Q else ex_ X d 22 38 [v0, v1, v2] [] h Q := (R_br (show mx_at 22 35 = some (.if_icmp .le 23, 3) by decide +kernel) rfl rfl).trans mx_ite
set_option maxRecDepth 20000 in
theorem i22_38 : ex_ X d 22 38 [.ref a, v1, v2] [] h Q = ex_ X d 22 39 [.ref a, v1, v2] [.ref a] h Q := ex_nx (show mx_at 22 38 = some (.aload_n 0, 1) by decide +kernel) rfl
set_option maxRecDepth 20000 in
theorem i22_39 : ex_ X d 22 39 [v0, v1, v2] [.ref a] h Q = (gk_ h a 11 [(3, 0)] = true ∧ ex_ X d 22 42 [v0, v1, v2] [gv_ h a 11] h Q) := R_getf (show mx_at 22 39 = some (.getfield 40, 3) by decide +kernel) (mx_fdo ow22 fd30040)
set_option maxRecDepth 20000 in
theorem i22_42 : ex_ X d 22 42 [v0, v1, .int x] [w0] h Q = ex_ X d 22 43 [v0, v1, .int x] [.int x, w0] h Q := ex_nx (show mx_at 22 42 = some (.iload_n 2, 1) by decide +kernel) rfl
set_option maxRecDepth 20000 in
theorem i22_43 : ex_ X d 22 43 [.ref a, v1, v2] [w0, w1] h Q = ex_ X d 22 44 [.ref a, v1, v2] [.ref a, w0, w1] h Q := ex_nx (show mx_at 22 43 = some (.aload_n 0, 1) by decide +kernel) rfl
set_option maxRecDepth 20000 in
theorem i22_44 : ex_ X d 22 44 [v0, v1, v2] [.ref a, w0, w1] h Q = (gk_ h a 11 [(3, 0)] = true ∧ ex_ X d 22 47 [v0, v1, v2] [gv_ h a 11, w0, w1] h Q) := R_getf (show mx_at 22 44 = some (.getfield 40, 3) by decide +kernel) (mx_fdo ow22 fd30040)
set_option maxRecDepth 20000 in
theorem i22_47 : ex_ X d 22 47 [v0, v1, .int x] [w0, w1, w2] h Q = ex_ X d 22 48 [v0, v1, .int x] [.int x, w0, w1, w2] h Q := ex_nx (show mx_at 22 47 = some (.iload_n 2, 1) by decide +kernel) rfl
set_option maxRecDepth 20000 in
theorem i22_48 : ex_ X d 22 48 [v0, v1, v2] [w0, w1, w2, w3] h Q = ex_ X d 22 49 [v0, v1, v2] [.int 1, w0, w1, w2, w3] h Q := R_iconst (show mx_at 22 48 = some (.iconst 1, 1) by decide +kernel) (by decide)
set_option maxRecDepth 20000 in
theorem i22_49 : ex_ X d 22 49 [v0, v1, v2] [.int y, .int x, w0, w1, w2] h Q = ex_ X d 22 50 [v0, v1, v2] [.int (x - y), w0, w1, w2] h Q := ex_nx (show mx_at 22 49 = some (.isub, 1) by decide +kernel) rfl
set_option maxRecDepth 20000 in
theorem i22_50 : ex_ X d 22 50 [v0, v1, v2] [.int i, .ref a, w0, w1] h Q = (ik_ h a i = true ∧ ex_ X d 22 51 [v0, v1, v2] [.int (ia_ h a i), w0, w1] h Q) := R_iald (show mx_at 22 50 = some (.iaload, 1) by decide +kernel)
set_option maxRecDepth 20000 in
theorem i22_51 : ex_ X d 22 51 [v0, v1, v2] [.int x, .int i, .ref a] h Q = (ik_ h a i = true ∧ ex_ X d 22 52 [v0, v1, v2] [] (is_ h a i x) Q) := R_iast (show mx_at 22 51 = some (.iastore, 1) by decide +kernel)
set_option maxRecDepth 20000 in
theorem i22_52 : ex_ X d 22 52 [v0, v1, .int x] [] h Q = (mx_nl v1 = true ∧ ex_ X d 22 55 [v0, v1, .int (x + (-1))] [] h Q) := (R_iinc (n := 2) (c := (-1)) (show mx_at 22 52 = some (.iinc 2 (-1), 3) by decide +kernel) rfl).trans (by rw [show Int32.ofInt (-1) = -1 from by decide]; rfl)
set_option maxRecDepth 20000 in
theorem i22_55 : ex_ X d 22 55 [v0, v1, v2] [] h Q = ex_ X d 22 12 [v0, v1, v2] [] h Q := R_to (show mx_at 22 55 = some (.goto (-43), 3) by decide +kernel) rfl rfl
set_option maxRecDepth 20000 in
theorem i22_58 : ex_ X d 22 58 [.ref a, v1, v2] [] h Q = ex_ X d 22 59 [.ref a, v1, v2] [.ref a] h Q := ex_nx (show mx_at 22 58 = some (.aload_n 0, 1) by decide +kernel) rfl
set_option maxRecDepth 20000 in
theorem i22_59 : ex_ X d 22 59 [v0, v1, v2] [.ref a] h Q = (gk_ h a 11 [(3, 0)] = true ∧ ex_ X d 22 62 [v0, v1, v2] [gv_ h a 11] h Q) := R_getf (show mx_at 22 59 = some (.getfield 40, 3) by decide +kernel) (mx_fdo ow22 fd30040)
set_option maxRecDepth 20000 in
theorem i22_62 : ex_ X d 22 62 [v0, v1, .int x] [w0] h Q = ex_ X d 22 63 [v0, v1, .int x] [.int x, w0] h Q := ex_nx (show mx_at 22 62 = some (.iload_n 2, 1) by decide +kernel) rfl
set_option maxRecDepth 20000 in
theorem i22_63 : ex_ X d 22 63 [v0, .int x, v2] [w0, w1] h Q = ex_ X d 22 64 [v0, .int x, v2] [.int x, w0, w1] h Q := ex_nx (show mx_at 22 63 = some (.iload_n 1, 1) by decide +kernel) rfl
set_option maxRecDepth 20000 in
theorem i22_64 : ex_ X d 22 64 [v0, v1, v2] [.int x, .int i, .ref a] h Q = (ik_ h a i = true ∧ ex_ X d 22 65 [v0, v1, v2] [] (is_ h a i x) Q) := R_iast (show mx_at 22 64 = some (.iastore, 1) by decide +kernel)
set_option maxRecDepth 20000 in
theorem i22_65 : ex_ X d 22 65 [v0, .int x, v2] [] h Q = (mx_nl v0 = true ∧ ex_ X d 22 68 [v0, .int (x + 1), v2] [] h Q) := R_iinc (n := 1) (c := 1) (show mx_at 22 65 = some (.iinc 1 1, 3) by decide +kernel) rfl
set_option maxRecDepth 20000 in
theorem i22_68 : ex_ X d 22 68 [v0, v1, v2] [] h Q = ex_ X d 22 2 [v0, v1, v2] [] h Q := R_to (show mx_at 22 68 = some (.goto (-66), 3) by decide +kernel) rfl rfl
set_option maxRecDepth 20000 in
theorem i22_71 : ex_ X d 22 71 [v0, v1, v2] [] h Q = Q none h := ex_ret (show mx_at 22 71 = some (.return_, 1) by decide +kernel) (mx_retV rt22)
theorem i22_e : ev_ X d 22 [.ref a] h Q = ex_ X d 22 0 [.ref a, .double 0, .double 0] [] h Q := by rw [ev_, ml22]; rfl
-- 23 X3_serve
set_option maxRecDepth 20000 in
theorem i23_0 : ex_ X d 23 0 [.ref a, v1, v2, v3, v4, v5, v6] [] h Q = ex_ X d 23 1 [.ref a, v1, v2, v3, v4, v5, v6] [.ref a] h Q := ex_nx (show mx_at 23 0 = some (.aload_n 0, 1) by decide +kernel) rfl
set_option maxRecDepth 20000 in
theorem i23_1 : ex_ X d 23 1 [v0, v1, v2, v3, v4, v5, v6] [.ref a] h Q = (gk_ h a 16 [(3, 0)] = true ∧ ex_ X d 23 4 [v0, v1, v2, v3, v4, v5, v6] [gv_ h a 16] h Q) := R_getf (show mx_at 23 1 = some (.getfield 52, 3) by decide +kernel) (mx_fdo ow23 fd30052)
set_option maxRecDepth 20000 in
theorem i23_4 : ex_ X d 23 4 [v0, .int x, v2, v3, v4, v5, v6] [w0] h Q = ex_ X d 23 5 [v0, .int x, v2, v3, v4, v5, v6] [.int x, w0] h Q := ex_nx (show mx_at 23 4 = some (.iload_n 1, 1) by decide +kernel) rfl
set_option maxRecDepth 20000 in
theorem i23_5 : ex_ X d 23 5 [v0, v1, v2, v3, v4, v5, v6] [.int i, .ref a] h Q = (ik_ h a i = true ∧ ex_ X d 23 6 [v0, v1, v2, v3, v4, v5, v6] [.int (ia_ h a i)] h Q) := R_iald (show mx_at 23 5 = some (.iaload, 1) by decide +kernel)
set_option maxRecDepth 20000 in
theorem i23_6 : ex_ X d 23 6 [.ref a, v1, v2, v3, v4, v5, v6] [w0] h Q = ex_ X d 23 7 [.ref a, v1, v2, v3, v4, v5, v6] [.ref a, w0] h Q := ex_nx (show mx_at 23 6 = some (.aload_n 0, 1) by decide +kernel) rfl
set_option maxRecDepth 20000 in
theorem i23_7 : ex_ X d 23 7 [v0, v1, v2, v3, v4, v5, v6] [.ref a, w0] h Q = (gk_ h a 13 [(3, 0)] = true ∧ ex_ X d 23 10 [v0, v1, v2, v3, v4, v5, v6] [gv_ h a 13, w0] h Q) := R_getf (show mx_at 23 7 = some (.getfield 43, 3) by decide +kernel) (mx_fdo ow23 fd30043)
set_option maxRecDepth 20000 in
theorem i23_10 : ex_ X d 23 10 [v0, .int x, v2, v3, v4, v5, v6] [w0, w1] h Q = ex_ X d 23 11 [v0, .int x, v2, v3, v4, v5, v6] [.int x, w0, w1] h Q := ex_nx (show mx_at 23 10 = some (.iload_n 1, 1) by decide +kernel) rfl
set_option maxRecDepth 20000 in
theorem i23_11 : ex_ X d 23 11 [v0, v1, v2, v3, v4, v5, v6] [.int i, .ref a, w0] h Q = (ik_ h a i = true ∧ ex_ X d 23 12 [v0, v1, v2, v3, v4, v5, v6] [.int (ia_ h a i), w0] h Q) := R_iald (show mx_at 23 11 = some (.iaload, 1) by decide +kernel)
set_option maxRecDepth 20000 in
theorem i23_12 : ex_ X d 23 12 [v0, v1, v2, v3, v4, v5, v6] [.int y, .int x] h Q = ex_ X d 23 13 [v0, v1, v2, v3, v4, v5, v6] [.int (x + y)] h Q := ex_nx (show mx_at 23 12 = some (.iadd, 1) by decide +kernel) rfl
set_option maxRecDepth 20000 in
theorem i23_13 : ex_ X d 23 13 [v0, v1, v2, v3, v4, v5, v6] [.int x] h Q = (mx_nl v1 = true ∧ ex_ X d 23 14 [v0, v1, .int x, v3, v4, v5, v6] [] h Q) := mx_t1 (R_st (ok := mx_isI) (n := 2) (w := 1) (show mx_at 23 13 = some (.istore_n 2, 1) by decide +kernel) (fun _ _ => rfl) (Nat.le_of_ble_eq_true rfl)) rfl
set_option maxRecDepth 20000 in
theorem i23_14 : ex_ X d 23 14 [.ref a, v1, v2, v3, v4, v5, v6] [] h Q = ex_ X d 23 15 [.ref a, v1, v2, v3, v4, v5, v6] [.ref a] h Q := ex_nx (show mx_at 23 14 = some (.aload_n 0, 1) by decide +kernel) rfl
set_option maxRecDepth 20000 in
theorem i23_15 : ex_ X d 23 15 [v0, .int x, v2, v3, v4, v5, v6] [w0] h Q = ex_ X d 23 16 [v0, .int x, v2, v3, v4, v5, v6] [.int x, w0] h Q := ex_nx (show mx_at 23 15 = some (.iload_n 1, 1) by decide +kernel) rfl
set_option maxRecDepth 20000 in
theorem i23_16 (hc : co_ h a = some 3) : ex_ X (d + 1) 23 16 [v0, v1, v2, v3, v4, v5, v6] [.int x0, .ref a] h Q = ev_ X d 15 [.ref a, .int x0] h (fun r h' => ex_ X (d + 1) 23 19 [v0, v1, v2, v3, v4, v5, v6] (r.toList ++ []) h' Q) := R_vir (show mx_at 23 16 = some (.invokevirtual 135, 3) by decide +kernel) (mx_clk ow23 cc3_135) (Nat.le_of_ble_eq_true rfl) rfl rfl hc rfl (Nat.le_of_ble_eq_true rfl) (Nat.le_of_ble_eq_true rfl) (by rw [ml15]; exact Nat.le_of_ble_eq_true rfl)
set_option maxRecDepth 20000 in
theorem i23_19 : ex_ X d 23 19 [v0, v1, v2, v3, v4, v5, v6] [.int x] h Q = (mx_nl v2 = true ∧ ex_ X d 23 20 [v0, v1, v2, .int x, v4, v5, v6] [] h Q) := mx_t1 (R_st (ok := mx_isI) (n := 3) (w := 1) (show mx_at 23 19 = some (.istore_n 3, 1) by decide +kernel) (fun _ _ => rfl) (Nat.le_of_ble_eq_true rfl)) rfl
set_option maxRecDepth 20000 in
theorem i23_20 : ex_ X d 23 20 [v0, v1, v2, v3, v4, v5, v6] [] h Q = ex_ X d 23 21 [v0, v1, v2, v3, v4, v5, v6] [.int 0] h Q := R_iconst (show mx_at 23 20 = some (.iconst 0, 1) by decide +kernel) (by decide)
set_option maxRecDepth 20000 in
theorem i23_21 : ex_ X d 23 21 [v0, v1, v2, v3, v4, v5, v6] [.int x] h Q = (mx_nl v3 = true ∧ ex_ X d 23 23 [v0, v1, v2, v3, .int x, v5, v6] [] h Q) := mx_t1 (R_st (ok := mx_isI) (n := 4) (w := 2) (show mx_at 23 21 = some (.istore 4, 2) by decide +kernel) (fun _ _ => rfl) (Nat.le_of_ble_eq_true rfl)) rfl
set_option maxRecDepth 20000 in
theorem i23_23 : ex_ X d 23 23 [v0, v1, v2, v3, .int x, v5, v6] [] h Q = ex_ X d 23 25 [v0, v1, v2, v3, .int x, v5, v6] [.int x] h Q := ex_nx (show mx_at 23 23 = some (.iload 4, 2) by decide +kernel) rfl
set_option maxRecDepth 20000 in
theorem i23_25 : ex_ X d 23 25 [.ref a, v1, v2, v3, v4, v5, v6] [w0] h Q = ex_ X d 23 26 [.ref a, v1, v2, v3, v4, v5, v6] [.ref a, w0] h Q := ex_nx (show mx_at 23 25 = some (.aload_n 0, 1) by decide +kernel) rfl
set_option maxRecDepth 20000 in
theorem i23_26 : ex_ X d 23 26 [v0, v1, v2, v3, v4, v5, v6] [.ref a, w0] h Q = (gk_ h a 7 [(3, 0)] = true ∧ ex_ X d 23 29 [v0, v1, v2, v3, v4, v5, v6] [gv_ h a 7, w0] h Q) := R_getf (show mx_at 23 26 = some (.getfield 71, 3) by decide +kernel) (mx_fdo ow23 fd30071)
set_option maxRecDepth 20000 in
theorem i23_29 : ex_ X d 23 29 [v0, v1, v2, v3, v4, v5, v6] [.int y, .int x] h Q = if y ≤ x then ex_ X d 23 145 [v0, v1, v2, v3, v4, v5, v6] [] h Q else ex_ X d 23 32 [v0, v1, v2, v3, v4, v5, v6] [] h Q := (R_br (show mx_at 23 29 = some (.if_icmp .ge 116, 3) by decide +kernel) rfl rfl).trans mx_ite
set_option maxRecDepth 20000 in
theorem i23_32 : ex_ X d 23 32 [v0, v1, .int x, v3, v4, v5, v6] [] h Q = ex_ X d 23 33 [v0, v1, .int x, v3, v4, v5, v6] [.int x] h Q := ex_nx (show mx_at 23 32 = some (.iload_n 2, 1) by decide +kernel) rfl
set_option maxRecDepth 20000 in
theorem i23_33 : ex_ X d 23 33 [v0, v1, v2, v3, v4, v5, v6] [.int x] h Q = if x ≤ 0 then ex_ X d 23 145 [v0, v1, v2, v3, v4, v5, v6] [] h Q else ex_ X d 23 36 [v0, v1, v2, v3, v4, v5, v6] [] h Q := (R_br (show mx_at 23 33 = some (.ifCond .le 112, 3) by decide +kernel) rfl rfl).trans mx_ite
set_option maxRecDepth 20000 in
theorem i23_36 : ex_ X d 23 36 [.ref a, v1, v2, v3, v4, v5, v6] [] h Q = ex_ X d 23 37 [.ref a, v1, v2, v3, v4, v5, v6] [.ref a] h Q := ex_nx (show mx_at 23 36 = some (.aload_n 0, 1) by decide +kernel) rfl
set_option maxRecDepth 20000 in
theorem i23_37 : ex_ X d 23 37 [v0, v1, v2, v3, v4, v5, v6] [.ref a] h Q = (gk_ h a 11 [(3, 0)] = true ∧ ex_ X d 23 40 [v0, v1, v2, v3, v4, v5, v6] [gv_ h a 11] h Q) := R_getf (show mx_at 23 37 = some (.getfield 40, 3) by decide +kernel) (mx_fdo ow23 fd30040)
set_option maxRecDepth 20000 in
theorem i23_40 : ex_ X d 23 40 [v0, v1, v2, v3, .int x, v5, v6] [w0] h Q = ex_ X d 23 42 [v0, v1, v2, v3, .int x, v5, v6] [.int x, w0] h Q := ex_nx (show mx_at 23 40 = some (.iload 4, 2) by decide +kernel) rfl
set_option maxRecDepth 20000 in
theorem i23_42 : ex_ X d 23 42 [v0, v1, v2, v3, v4, v5, v6] [.int i, .ref a] h Q = (ik_ h a i = true ∧ ex_ X d 23 43 [v0, v1, v2, v3, v4, v5, v6] [.int (ia_ h a i)] h Q) := R_iald (show mx_at 23 42 = some (.iaload, 1) by decide +kernel)
set_option maxRecDepth 20000 in
theorem i23_43 : ex_ X d 23 43 [v0, v1, v2, v3, v4, v5, v6] [.int x] h Q = (mx_nl v4 = true ∧ ex_ X d 23 45 [v0, v1, v2, v3, v4, .int x, v6] [] h Q) := mx_t1 (R_st (ok := mx_isI) (n := 5) (w := 2) (show mx_at 23 43 = some (.istore 5, 2) by decide +kernel) (fun _ _ => rfl) (Nat.le_of_ble_eq_true rfl)) rfl
set_option maxRecDepth 20000 in
theorem i23_45 : ex_ X d 23 45 [.ref a, v1, v2, v3, v4, v5, v6] [] h Q = ex_ X d 23 46 [.ref a, v1, v2, v3, v4, v5, v6] [.ref a] h Q := ex_nx (show mx_at 23 45 = some (.aload_n 0, 1) by decide +kernel) rfl
set_option maxRecDepth 20000 in
theorem i23_46 : ex_ X d 23 46 [v0, v1, v2, v3, v4, v5, v6] [.ref a] h Q = (gk_ h a 8 [(3, 0)] = true ∧ ex_ X d 23 49 [v0, v1, v2, v3, v4, v5, v6] [gv_ h a 8] h Q) := R_getf (show mx_at 23 46 = some (.getfield 31, 3) by decide +kernel) (mx_fdo ow23 fd30031)
set_option maxRecDepth 20000 in
theorem i23_49 : ex_ X d 23 49 [v0, v1, v2, v3, v4, .int x, v6] [w0] h Q = ex_ X d 23 51 [v0, v1, v2, v3, v4, .int x, v6] [.int x, w0] h Q := ex_nx (show mx_at 23 49 = some (.iload 5, 2) by decide +kernel) rfl
set_option maxRecDepth 20000 in
theorem i23_51 : ex_ X d 23 51 [v0, v1, v2, v3, v4, v5, v6] [.int i, .ref a] h Q = (ik_ h a i = true ∧ ex_ X d 23 52 [v0, v1, v2, v3, v4, v5, v6] [.int (ia_ h a i)] h Q) := R_iald (show mx_at 23 51 = some (.iaload, 1) by decide +kernel)
set_option maxRecDepth 20000 in
theorem i23_52 : ex_ X d 23 52 [v0, v1, v2, v3, v4, v5, v6] [.int x] h Q = if x ≤ 0 then ex_ X d 23 139 [v0, v1, v2, v3, v4, v5, v6] [] h Q else ex_ X d 23 55 [v0, v1, v2, v3, v4, v5, v6] [] h Q := (R_br (show mx_at 23 52 = some (.ifCond .le 87, 3) by decide +kernel) rfl rfl).trans mx_ite
set_option maxRecDepth 20000 in
theorem i23_55 : ex_ X d 23 55 [.ref a, v1, v2, v3, v4, v5, v6] [] h Q = ex_ X d 23 56 [.ref a, v1, v2, v3, v4, v5, v6] [.ref a] h Q := ex_nx (show mx_at 23 55 = some (.aload_n 0, 1) by decide +kernel) rfl
set_option maxRecDepth 20000 in
theorem i23_56 : ex_ X d 23 56 [v0, v1, v2, v3, v4, v5, v6] [w0] h Q = ex_ X d 23 57 [v0, v1, v2, v3, v4, v5, v6] [.int 1, w0] h Q := R_iconst (show mx_at 23 56 = some (.iconst 1, 1) by decide +kernel) (by decide)
set_option maxRecDepth 20000 in
theorem i23_57 : ex_ X d 23 57 [.ref a, v1, v2, v3, v4, v5, v6] [w0, w1] h Q = ex_ X d 23 58 [.ref a, v1, v2, v3, v4, v5, v6] [.ref a, w0, w1] h Q := ex_nx (show mx_at 23 57 = some (.aload_n 0, 1) by decide +kernel) rfl
set_option maxRecDepth 20000 in
theorem i23_58 : ex_ X d 23 58 [v0, v1, v2, v3, v4, v5, v6] [.ref a, w0, w1] h Q = (gk_ h a 10 [(3, 0)] = true ∧ ex_ X d 23 61 [v0, v1, v2, v3, v4, v5, v6] [gv_ h a 10, w0, w1] h Q) := R_getf (show mx_at 23 58 = some (.getfield 37, 3) by decide +kernel) (mx_fdo ow23 fd30037)
set_option maxRecDepth 20000 in
theorem i23_61 : ex_ X d 23 61 [v0, v1, v2, v3, v4, .int x, v6] [w0, w1, w2] h Q = ex_ X d 23 63 [v0, v1, v2, v3, v4, .int x, v6] [.int x, w0, w1, w2] h Q := ex_nx (show mx_at 23 61 = some (.iload 5, 2) by decide +kernel) rfl
set_option maxRecDepth 20000 in
theorem i23_63 : ex_ X d 23 63 [v0, v1, v2, v3, v4, v5, v6] [.int i, .ref a, w0, w1] h Q = (ik_ h a i = true ∧ ex_ X d 23 64 [v0, v1, v2, v3, v4, v5, v6] [.int (ia_ h a i), w0, w1] h Q) := R_iald (show mx_at 23 63 = some (.iaload, 1) by decide +kernel)
set_option maxRecDepth 20000 in
theorem i23_64 : ex_ X d 23 64 [v0, v1, v2, .int x, v4, v5, v6] [w0, w1, w2] h Q = ex_ X d 23 65 [v0, v1, v2, .int x, v4, v5, v6] [.int x, w0, w1, w2] h Q := ex_nx (show mx_at 23 64 = some (.iload_n 3, 1) by decide +kernel) rfl
set_option maxRecDepth 20000 in
theorem i23_65 : ex_ X d 23 65 [.ref a, v1, v2, v3, v4, v5, v6] [w0, w1, w2, w3] h Q = ex_ X d 23 66 [.ref a, v1, v2, v3, v4, v5, v6] [.ref a, w0, w1, w2, w3] h Q := ex_nx (show mx_at 23 65 = some (.aload_n 0, 1) by decide +kernel) rfl
set_option maxRecDepth 20000 in
theorem i23_66 : ex_ X d 23 66 [v0, v1, v2, v3, v4, v5, v6] [.ref a, w0, w1, w2, w3] h Q = (gk_ h a 15 [(3, 0)] = true ∧ ex_ X d 23 69 [v0, v1, v2, v3, v4, v5, v6] [gv_ h a 15, w0, w1, w2, w3] h Q) := R_getf (show mx_at 23 66 = some (.getfield 49, 3) by decide +kernel) (mx_fdo ow23 fd30049)
set_option maxRecDepth 20000 in
theorem i23_69 : ex_ X d 23 69 [v0, .int x, v2, v3, v4, v5, v6] [w0, w1, w2, w3, w4] h Q = ex_ X d 23 70 [v0, .int x, v2, v3, v4, v5, v6] [.int x, w0, w1, w2, w3, w4] h Q := ex_nx (show mx_at 23 69 = some (.iload_n 1, 1) by decide +kernel) rfl
set_option maxRecDepth 20000 in
theorem i23_70 : ex_ X d 23 70 [v0, v1, v2, v3, v4, v5, v6] [.int i, .ref a, w0, w1, w2, w3] h Q = (ik_ h a i = true ∧ ex_ X d 23 71 [v0, v1, v2, v3, v4, v5, v6] [.int (ia_ h a i), w0, w1, w2, w3] h Q) := R_iald (show mx_at 23 70 = some (.iaload, 1) by decide +kernel)
set_option maxRecDepth 20000 in
theorem i23_71 : ex_ X d 23 71 [.ref a, v1, v2, v3, v4, v5, v6] [w0, w1, w2, w3, w4] h Q = ex_ X d 23 72 [.ref a, v1, v2, v3, v4, v5, v6] [.ref a, w0, w1, w2, w3, w4] h Q := ex_nx (show mx_at 23 71 = some (.aload_n 0, 1) by decide +kernel) rfl
set_option maxRecDepth 20000 in
theorem i23_72 : ex_ X d 23 72 [v0, v1, v2, v3, v4, v5, v6] [.ref a, w0, w1, w2, w3, w4] h Q = (gk_ h a 0 [(3, 0)] = true ∧ ex_ X d 23 75 [v0, v1, v2, v3, v4, v5, v6] [gv_ h a 0, w0, w1, w2, w3, w4] h Q) := R_getf (show mx_at 23 72 = some (.getfield 55, 3) by decide +kernel) (mx_fdo ow23 fd30055)
set_option maxRecDepth 20000 in
theorem i23_75 (hc : co_ h a = some 3) : ex_ X (d + 1) 23 75 [v0, v1, v2, v3, v4, v5, v6] [.int x4, .int x3, .int x2, .int x1, .int x0, .ref a] h Q = ev_ X d 16 [.ref a, .int x0, .int x1, .int x2, .int x3, .int x4] h (fun r h' => ex_ X (d + 1) 23 78 [v0, v1, v2, v3, v4, v5, v6] (r.toList ++ []) h' Q) := R_vir (show mx_at 23 75 = some (.invokevirtual 104, 3) by decide +kernel) (mx_clk ow23 cc3_104) (Nat.le_of_ble_eq_true rfl) rfl rfl hc rfl (Nat.le_of_ble_eq_true rfl) (Nat.le_of_ble_eq_true rfl) (by rw [ml16]; exact Nat.le_of_ble_eq_true rfl)
set_option maxRecDepth 20000 in
theorem i23_78 : ex_ X d 23 78 [v0, v1, v2, v3, v4, v5, v6] [.int x] h Q = if x = 0 then ex_ X d 23 139 [v0, v1, v2, v3, v4, v5, v6] [] h Q else ex_ X d 23 81 [v0, v1, v2, v3, v4, v5, v6] [] h Q := (R_br (show mx_at 23 78 = some (.ifCond .eq 61, 3) by decide +kernel) rfl rfl).trans mx_ite
set_option maxRecDepth 20000 in
theorem i23_81 : ex_ X d 23 81 [v0, v1, .int x, v3, v4, v5, v6] [] h Q = ex_ X d 23 82 [v0, v1, .int x, v3, v4, v5, v6] [.int x] h Q := ex_nx (show mx_at 23 81 = some (.iload_n 2, 1) by decide +kernel) rfl
set_option maxRecDepth 20000 in
theorem i23_82 : ex_ X d 23 82 [.ref a, v1, v2, v3, v4, v5, v6] [w0] h Q = ex_ X d 23 83 [.ref a, v1, v2, v3, v4, v5, v6] [.ref a, w0] h Q := ex_nx (show mx_at 23 82 = some (.aload_n 0, 1) by decide +kernel) rfl
set_option maxRecDepth 20000 in
theorem i23_83 : ex_ X d 23 83 [v0, v1, v2, v3, v4, v5, v6] [.ref a, w0] h Q = (gk_ h a 8 [(3, 0)] = true ∧ ex_ X d 23 86 [v0, v1, v2, v3, v4, v5, v6] [gv_ h a 8, w0] h Q) := R_getf (show mx_at 23 83 = some (.getfield 31, 3) by decide +kernel) (mx_fdo ow23 fd30031)
set_option maxRecDepth 20000 in
theorem i23_86 : ex_ X d 23 86 [v0, v1, v2, v3, v4, .int x, v6] [w0, w1] h Q = ex_ X d 23 88 [v0, v1, v2, v3, v4, .int x, v6] [.int x, w0, w1] h Q := ex_nx (show mx_at 23 86 = some (.iload 5, 2) by decide +kernel) rfl
set_option maxRecDepth 20000 in
theorem i23_88 : ex_ X d 23 88 [v0, v1, v2, v3, v4, v5, v6] [.int i, .ref a, w0] h Q = (ik_ h a i = true ∧ ex_ X d 23 89 [v0, v1, v2, v3, v4, v5, v6] [.int (ia_ h a i), w0] h Q) := R_iald (show mx_at 23 88 = some (.iaload, 1) by decide +kernel)
set_option maxRecDepth 20000 in
theorem i23_89 : ex_ X (d + 1) 23 89 [v0, v1, v2, v3, v4, v5, v6] [.int y, .int x] h Q = ex_ X (d + 1) 23 92 [v0, v1, v2, v3, v4, v5, v6] [.int (if y < x then y else x)] h Q := R_min (show mx_at 23 89 = some (.invokestatic 129, 3) by decide +kernel) (mx_clk ow23 cc3_129) (Nat.le_of_ble_eq_true rfl)
set_option maxRecDepth 20000 in
theorem i23_92 : ex_ X d 23 92 [v0, v1, v2, v3, v4, v5, v6] [.int x] h Q = (mx_nl v5 = true ∧ ex_ X d 23 94 [v0, v1, v2, v3, v4, v5, .int x] [] h Q) := mx_t1 (R_st (ok := mx_isI) (n := 6) (w := 2) (show mx_at 23 92 = some (.istore 6, 2) by decide +kernel) (fun _ _ => rfl) (Nat.le_of_ble_eq_true rfl)) rfl
set_option maxRecDepth 20000 in
theorem i23_94 : ex_ X d 23 94 [.ref a, v1, v2, v3, v4, v5, v6] [] h Q = ex_ X d 23 95 [.ref a, v1, v2, v3, v4, v5, v6] [.ref a] h Q := ex_nx (show mx_at 23 94 = some (.aload_n 0, 1) by decide +kernel) rfl
set_option maxRecDepth 20000 in
theorem i23_95 : ex_ X d 23 95 [v0, v1, v2, v3, v4, v5, v6] [.ref a] h Q = (gk_ h a 8 [(3, 0)] = true ∧ ex_ X d 23 98 [v0, v1, v2, v3, v4, v5, v6] [gv_ h a 8] h Q) := R_getf (show mx_at 23 95 = some (.getfield 31, 3) by decide +kernel) (mx_fdo ow23 fd30031)
set_option maxRecDepth 20000 in
theorem i23_98 : ex_ X d 23 98 [v0, v1, v2, v3, v4, .int x, v6] [w0] h Q = ex_ X d 23 100 [v0, v1, v2, v3, v4, .int x, v6] [.int x, w0] h Q := ex_nx (show mx_at 23 98 = some (.iload 5, 2) by decide +kernel) rfl
set_option maxRecDepth 20000 in
theorem i23_100 : ex_ X d 23 100 [v0, v1, v2, v3, v4, v5, v6] [.int x, .ref a] h Q = ex_ X d 23 101 [v0, v1, v2, v3, v4, v5, v6] [.int x, .ref a, .int x, .ref a] h Q := ex_nx (show mx_at 23 100 = some (.dup2, 1) by decide +kernel) rfl
set_option maxRecDepth 20000 in
theorem i23_101 : ex_ X d 23 101 [v0, v1, v2, v3, v4, v5, v6] [.int i, .ref a, w0, w1] h Q = (ik_ h a i = true ∧ ex_ X d 23 102 [v0, v1, v2, v3, v4, v5, v6] [.int (ia_ h a i), w0, w1] h Q) := R_iald (show mx_at 23 101 = some (.iaload, 1) by decide +kernel)
set_option maxRecDepth 20000 in
theorem i23_102 : ex_ X d 23 102 [v0, v1, v2, v3, v4, v5, .int x] [w0, w1, w2] h Q = ex_ X d 23 104 [v0, v1, v2, v3, v4, v5, .int x] [.int x, w0, w1, w2] h Q := ex_nx (show mx_at 23 102 = some (.iload 6, 2) by decide +kernel) rfl
set_option maxRecDepth 20000 in
theorem i23_104 : ex_ X d 23 104 [v0, v1, v2, v3, v4, v5, v6] [.int y, .int x, w0, w1] h Q = ex_ X d 23 105 [v0, v1, v2, v3, v4, v5, v6] [.int (x - y), w0, w1] h Q := ex_nx (show mx_at 23 104 = some (.isub, 1) by decide +kernel) rfl
set_option maxRecDepth 20000 in
theorem i23_105 : ex_ X d 23 105 [v0, v1, v2, v3, v4, v5, v6] [.int x, .int i, .ref a] h Q = (ik_ h a i = true ∧ ex_ X d 23 106 [v0, v1, v2, v3, v4, v5, v6] [] (is_ h a i x) Q) := R_iast (show mx_at 23 105 = some (.iastore, 1) by decide +kernel)
set_option maxRecDepth 20000 in
theorem i23_106 : ex_ X d 23 106 [.ref a, v1, v2, v3, v4, v5, v6] [] h Q = ex_ X d 23 107 [.ref a, v1, v2, v3, v4, v5, v6] [.ref a] h Q := ex_nx (show mx_at 23 106 = some (.aload_n 0, 1) by decide +kernel) rfl
set_option maxRecDepth 20000 in
theorem i23_107 : ex_ X d 23 107 [v0, v1, v2, v3, v4, v5, v6] [.ref a] h Q = (gk_ h a 9 [(3, 0)] = true ∧ ex_ X d 23 110 [v0, v1, v2, v3, v4, v5, v6] [gv_ h a 9] h Q) := R_getf (show mx_at 23 107 = some (.getfield 34, 3) by decide +kernel) (mx_fdo ow23 fd30034)
set_option maxRecDepth 20000 in
theorem i23_110 : ex_ X d 23 110 [v0, v1, v2, v3, v4, .int x, v6] [w0] h Q = ex_ X d 23 112 [v0, v1, v2, v3, v4, .int x, v6] [.int x, w0] h Q := ex_nx (show mx_at 23 110 = some (.iload 5, 2) by decide +kernel) rfl
set_option maxRecDepth 20000 in
theorem i23_112 : ex_ X d 23 112 [.ref a, v1, v2, v3, v4, v5, v6] [w0, w1] h Q = ex_ X d 23 113 [.ref a, v1, v2, v3, v4, v5, v6] [.ref a, w0, w1] h Q := ex_nx (show mx_at 23 112 = some (.aload_n 0, 1) by decide +kernel) rfl
set_option maxRecDepth 20000 in
theorem i23_113 : ex_ X d 23 113 [v0, v1, v2, v3, v4, v5, v6] [.ref a, w0, w1] h Q = (gk_ h a 9 [(3, 0)] = true ∧ ex_ X d 23 116 [v0, v1, v2, v3, v4, v5, v6] [gv_ h a 9, w0, w1] h Q) := R_getf (show mx_at 23 113 = some (.getfield 34, 3) by decide +kernel) (mx_fdo ow23 fd30034)
set_option maxRecDepth 20000 in
theorem i23_116 : ex_ X d 23 116 [v0, v1, v2, v3, v4, .int x, v6] [w0, w1, w2] h Q = ex_ X d 23 118 [v0, v1, v2, v3, v4, .int x, v6] [.int x, w0, w1, w2] h Q := ex_nx (show mx_at 23 116 = some (.iload 5, 2) by decide +kernel) rfl
set_option maxRecDepth 20000 in
theorem i23_118 : ex_ X d 23 118 [v0, v1, v2, v3, v4, v5, v6] [.int i, .ref a, w0, w1] h Q = (ik_ h a i = true ∧ ex_ X d 23 119 [v0, v1, v2, v3, v4, v5, v6] [.int (ia_ h a i), w0, w1] h Q) := R_iald (show mx_at 23 118 = some (.iaload, 1) by decide +kernel)
set_option maxRecDepth 20000 in
theorem i23_119 : ex_ X d 23 119 [v0, v1, v2, v3, v4, v5, .int x] [w0, w1, w2] h Q = ex_ X d 23 121 [v0, v1, v2, v3, v4, v5, .int x] [.int x, w0, w1, w2] h Q := ex_nx (show mx_at 23 119 = some (.iload 6, 2) by decide +kernel) rfl
set_option maxRecDepth 20000 in
theorem i23_121 : ex_ X d 23 121 [.ref a, v1, v2, v3, v4, v5, v6] [w0, w1, w2, w3] h Q = ex_ X d 23 122 [.ref a, v1, v2, v3, v4, v5, v6] [.ref a, w0, w1, w2, w3] h Q := ex_nx (show mx_at 23 121 = some (.aload_n 0, 1) by decide +kernel) rfl
set_option maxRecDepth 20000 in
theorem i23_122 : ex_ X d 23 122 [v0, v1, v2, v3, v4, v5, v6] [.ref a, w0, w1, w2, w3] h Q = (gk_ h a 10 [(3, 0)] = true ∧ ex_ X d 23 125 [v0, v1, v2, v3, v4, v5, v6] [gv_ h a 10, w0, w1, w2, w3] h Q) := R_getf (show mx_at 23 122 = some (.getfield 37, 3) by decide +kernel) (mx_fdo ow23 fd30037)
set_option maxRecDepth 20000 in
theorem i23_125 : ex_ X d 23 125 [v0, v1, v2, v3, v4, .int x, v6] [w0, w1, w2, w3, w4] h Q = ex_ X d 23 127 [v0, v1, v2, v3, v4, .int x, v6] [.int x, w0, w1, w2, w3, w4] h Q := ex_nx (show mx_at 23 125 = some (.iload 5, 2) by decide +kernel) rfl
set_option maxRecDepth 20000 in
theorem i23_127 : ex_ X d 23 127 [v0, v1, v2, v3, v4, v5, v6] [.int i, .ref a, w0, w1, w2, w3] h Q = (ik_ h a i = true ∧ ex_ X d 23 128 [v0, v1, v2, v3, v4, v5, v6] [.int (ia_ h a i), w0, w1, w2, w3] h Q) := R_iald (show mx_at 23 127 = some (.iaload, 1) by decide +kernel)
set_option maxRecDepth 20000 in
theorem i23_128 : ex_ X d 23 128 [v0, v1, v2, v3, v4, v5, v6] [.int y, .int x, w0, w1, w2] h Q = ex_ X d 23 129 [v0, v1, v2, v3, v4, v5, v6] [.int (x * y), w0, w1, w2] h Q := ex_nx (show mx_at 23 128 = some (.imul, 1) by decide +kernel) rfl
set_option maxRecDepth 20000 in
theorem i23_129 : ex_ X d 23 129 [v0, v1, v2, v3, v4, v5, v6] [.int y, .int x, w0, w1] h Q = ex_ X d 23 130 [v0, v1, v2, v3, v4, v5, v6] [.int (x + y), w0, w1] h Q := ex_nx (show mx_at 23 129 = some (.iadd, 1) by decide +kernel) rfl
set_option maxRecDepth 20000 in
theorem i23_130 : ex_ X (d + 1) 23 130 [v0, v1, v2, v3, v4, v5, v6] [.int x0, w0, w1] h Q = ev_ X d 29 [.int x0] h (fun r h' => ex_ X (d + 1) 23 133 [v0, v1, v2, v3, v4, v5, v6] (r.toList ++ [w0, w1]) h' Q) := R_stat (show mx_at 23 130 = some (.invokestatic 132, 3) by decide +kernel) (mx_clk ow23 cc3_132) (Nat.le_of_ble_eq_true rfl) rfl rfl (Nat.le_of_ble_eq_true rfl) ml29 (Nat.le_of_ble_eq_true rfl)
set_option maxRecDepth 20000 in
theorem i23_133 : ex_ X d 23 133 [v0, v1, v2, v3, v4, v5, v6] [.int x, .int i, .ref a] h Q = (ik_ h a i = true ∧ ex_ X d 23 134 [v0, v1, v2, v3, v4, v5, v6] [] (is_ h a i x) Q) := R_iast (show mx_at 23 133 = some (.iastore, 1) by decide +kernel)
set_option maxRecDepth 20000 in
theorem i23_134 : ex_ X d 23 134 [v0, v1, .int x, v3, v4, v5, v6] [] h Q = ex_ X d 23 135 [v0, v1, .int x, v3, v4, v5, v6] [.int x] h Q := ex_nx (show mx_at 23 134 = some (.iload_n 2, 1) by decide +kernel) rfl
set_option maxRecDepth 20000 in
theorem i23_135 : ex_ X d 23 135 [v0, v1, v2, v3, v4, v5, .int x] [w0] h Q = ex_ X d 23 137 [v0, v1, v2, v3, v4, v5, .int x] [.int x, w0] h Q := ex_nx (show mx_at 23 135 = some (.iload 6, 2) by decide +kernel) rfl
set_option maxRecDepth 20000 in
theorem i23_137 : ex_ X d 23 137 [v0, v1, v2, v3, v4, v5, v6] [.int y, .int x] h Q = ex_ X d 23 138 [v0, v1, v2, v3, v4, v5, v6] [.int (x - y)] h Q := ex_nx (show mx_at 23 137 = some (.isub, 1) by decide +kernel) rfl
set_option maxRecDepth 20000 in
theorem i23_138 : ex_ X d 23 138 [v0, v1, v2, v3, v4, v5, v6] [.int x] h Q = (mx_nl v1 = true ∧ ex_ X d 23 139 [v0, v1, .int x, v3, v4, v5, v6] [] h Q) := mx_t1 (R_st (ok := mx_isI) (n := 2) (w := 1) (show mx_at 23 138 = some (.istore_n 2, 1) by decide +kernel) (fun _ _ => rfl) (Nat.le_of_ble_eq_true rfl)) rfl
set_option maxRecDepth 20000 in
theorem i23_139 : ex_ X d 23 139 [v0, v1, v2, v3, .int x, v5, v6] [] h Q = (mx_nl v3 = true ∧ ex_ X d 23 142 [v0, v1, v2, v3, .int (x + 1), v5, v6] [] h Q) := R_iinc (n := 4) (c := 1) (show mx_at 23 139 = some (.iinc 4 1, 3) by decide +kernel) rfl
set_option maxRecDepth 20000 in
theorem i23_142 : ex_ X d 23 142 [v0, v1, v2, v3, v4, v5, v6] [] h Q = ex_ X d 23 23 [v0, v1, v2, v3, v4, v5, v6] [] h Q := R_to (show mx_at 23 142 = some (.goto (-119), 3) by decide +kernel) rfl rfl
set_option maxRecDepth 20000 in
theorem i23_145 : ex_ X d 23 145 [.ref a, v1, v2, v3, v4, v5, v6] [] h Q = ex_ X d 23 146 [.ref a, v1, v2, v3, v4, v5, v6] [.ref a] h Q := ex_nx (show mx_at 23 145 = some (.aload_n 0, 1) by decide +kernel) rfl
set_option maxRecDepth 20000 in
theorem i23_146 : ex_ X d 23 146 [v0, v1, v2, v3, v4, v5, v6] [.ref a] h Q = (gk_ h a 16 [(3, 0)] = true ∧ ex_ X d 23 149 [v0, v1, v2, v3, v4, v5, v6] [gv_ h a 16] h Q) := R_getf (show mx_at 23 146 = some (.getfield 52, 3) by decide +kernel) (mx_fdo ow23 fd30052)
set_option maxRecDepth 20000 in
theorem i23_149 : ex_ X d 23 149 [v0, .int x, v2, v3, v4, v5, v6] [w0] h Q = ex_ X d 23 150 [v0, .int x, v2, v3, v4, v5, v6] [.int x, w0] h Q := ex_nx (show mx_at 23 149 = some (.iload_n 1, 1) by decide +kernel) rfl
set_option maxRecDepth 20000 in
theorem i23_150 : ex_ X d 23 150 [.ref a, v1, v2, v3, v4, v5, v6] [w0, w1] h Q = ex_ X d 23 151 [.ref a, v1, v2, v3, v4, v5, v6] [.ref a, w0, w1] h Q := ex_nx (show mx_at 23 150 = some (.aload_n 0, 1) by decide +kernel) rfl
set_option maxRecDepth 20000 in
theorem i23_151 : ex_ X d 23 151 [v0, v1, v2, v3, v4, v5, v6] [.ref a, w0, w1] h Q = (gk_ h a 15 [(3, 0)] = true ∧ ex_ X d 23 154 [v0, v1, v2, v3, v4, v5, v6] [gv_ h a 15, w0, w1] h Q) := R_getf (show mx_at 23 151 = some (.getfield 49, 3) by decide +kernel) (mx_fdo ow23 fd30049)
set_option maxRecDepth 20000 in
theorem i23_154 : ex_ X d 23 154 [v0, .int x, v2, v3, v4, v5, v6] [w0, w1, w2] h Q = ex_ X d 23 155 [v0, .int x, v2, v3, v4, v5, v6] [.int x, w0, w1, w2] h Q := ex_nx (show mx_at 23 154 = some (.iload_n 1, 1) by decide +kernel) rfl
set_option maxRecDepth 20000 in
theorem i23_155 : ex_ X d 23 155 [v0, v1, v2, v3, v4, v5, v6] [.int i, .ref a, w0, w1] h Q = (ik_ h a i = true ∧ ex_ X d 23 156 [v0, v1, v2, v3, v4, v5, v6] [.int (ia_ h a i), w0, w1] h Q) := R_iald (show mx_at 23 155 = some (.iaload, 1) by decide +kernel)
set_option maxRecDepth 20000 in
theorem i23_156 : ex_ X d 23 156 [v0, v1, v2, v3, v4, v5, v6] [.int x, w0, w1] h Q = if ¬ x = 0 then ex_ X d 23 163 [v0, v1, v2, v3, v4, v5, v6] [w0, w1] h Q else ex_ X d 23 159 [v0, v1, v2, v3, v4, v5, v6] [w0, w1] h Q := (R_br (show mx_at 23 156 = some (.ifCond .ne 7, 3) by decide +kernel) rfl rfl).trans mx_ite
set_option maxRecDepth 20000 in
theorem i23_159 : ex_ X d 23 159 [v0, v1, v2, v3, v4, v5, v6] [w0, w1] h Q = ex_ X d 23 160 [v0, v1, v2, v3, v4, v5, v6] [.int 0, w0, w1] h Q := R_iconst (show mx_at 23 159 = some (.iconst 0, 1) by decide +kernel) (by decide)
set_option maxRecDepth 20000 in
theorem i23_160 : ex_ X d 23 160 [v0, v1, v2, v3, v4, v5, v6] [w0, w1, w2] h Q = ex_ X d 23 169 [v0, v1, v2, v3, v4, v5, v6] [w0, w1, w2] h Q := R_to (show mx_at 23 160 = some (.goto 9, 3) by decide +kernel) rfl rfl
set_option maxRecDepth 20000 in
theorem i23_163 : ex_ X d 23 163 [v0, v1, .int x, v3, v4, v5, v6] [w0, w1] h Q = ex_ X d 23 164 [v0, v1, .int x, v3, v4, v5, v6] [.int x, w0, w1] h Q := ex_nx (show mx_at 23 163 = some (.iload_n 2, 1) by decide +kernel) rfl
set_option maxRecDepth 20000 in
theorem i23_164 : ex_ X d 23 164 [v0, v1, v2, v3, v4, v5, v6] [w0, w1, w2] h Q = ex_ X d 23 166 [v0, v1, v2, v3, v4, v5, v6] [.int 99, w0, w1, w2] h Q := R_bipush (show mx_at 23 164 = some (.bipush 99, 2) by decide +kernel) (by decide)
set_option maxRecDepth 20000 in
theorem i23_166 : ex_ X (d + 1) 23 166 [v0, v1, v2, v3, v4, v5, v6] [.int y, .int x, w0, w1] h Q = ex_ X (d + 1) 23 169 [v0, v1, v2, v3, v4, v5, v6] [.int (if y < x then y else x), w0, w1] h Q := R_min (show mx_at 23 166 = some (.invokestatic 129, 3) by decide +kernel) (mx_clk ow23 cc3_129) (Nat.le_of_ble_eq_true rfl)
set_option maxRecDepth 20000 in
theorem i23_169 : ex_ X d 23 169 [v0, v1, v2, v3, v4, v5, v6] [.int x, .int i, .ref a] h Q = (ik_ h a i = true ∧ ex_ X d 23 170 [v0, v1, v2, v3, v4, v5, v6] [] (is_ h a i x) Q) := R_iast (show mx_at 23 169 = some (.iastore, 1) by decide +kernel)
set_option maxRecDepth 20000 in
theorem i23_170 : ex_ X d 23 170 [v0, v1, v2, v3, v4, v5, v6] [] h Q = Q none h := ex_ret (show mx_at 23 170 = some (.return_, 1) by decide +kernel) (mx_retV rt23)
theorem i23_e : ev_ X d 23 [.ref a, .int x0] h Q = ex_ X d 23 0 [.ref a, .int x0, .double 0, .double 0, .double 0, .double 0, .double 0] [] h Q := by rw [ev_, ml23]; rfl
-- 24 X3_cheapest
set_option maxRecDepth 20000 in
theorem i24_0 : ex_ X d 24 0 [v0, v1, v2] [] h Q = ex_ X d 24 1 [v0, v1, v2] [.int (-1)] h Q := R_iconst (show mx_at 24 0 = some (.iconst (-1), 1) by decide +kernel) (by decide)
set_option maxRecDepth 20000 in
theorem i24_1 : ex_ X d 24 1 [v0, v1, v2] [.int x] h Q = (mx_nl v0 = true ∧ ex_ X d 24 2 [v0, .int x, v2] [] h Q) := mx_t1 (R_st (ok := mx_isI) (n := 1) (w := 1) (show mx_at 24 1 = some (.istore_n 1, 1) by decide +kernel) (fun _ _ => rfl) (Nat.le_of_ble_eq_true rfl)) rfl
set_option maxRecDepth 20000 in
theorem i24_2 : ex_ X d 24 2 [v0, v1, v2] [] h Q = ex_ X d 24 3 [v0, v1, v2] [.int 0] h Q := R_iconst (show mx_at 24 2 = some (.iconst 0, 1) by decide +kernel) (by decide)
set_option maxRecDepth 20000 in
theorem i24_3 : ex_ X d 24 3 [v0, v1, v2] [.int x] h Q = (mx_nl v1 = true ∧ ex_ X d 24 4 [v0, v1, .int x] [] h Q) := mx_t1 (R_st (ok := mx_isI) (n := 2) (w := 1) (show mx_at 24 3 = some (.istore_n 2, 1) by decide +kernel) (fun _ _ => rfl) (Nat.le_of_ble_eq_true rfl)) rfl
set_option maxRecDepth 20000 in
theorem i24_4 : ex_ X d 24 4 [v0, v1, .int x] [] h Q = ex_ X d 24 5 [v0, v1, .int x] [.int x] h Q := ex_nx (show mx_at 24 4 = some (.iload_n 2, 1) by decide +kernel) rfl
set_option maxRecDepth 20000 in
theorem i24_5 : ex_ X d 24 5 [.ref a, v1, v2] [w0] h Q = ex_ X d 24 6 [.ref a, v1, v2] [.ref a, w0] h Q := ex_nx (show mx_at 24 5 = some (.aload_n 0, 1) by decide +kernel) rfl
set_option maxRecDepth 20000 in
theorem i24_6 : ex_ X d 24 6 [v0, v1, v2] [.ref a, w0] h Q = (gk_ h a 7 [(3, 0)] = true ∧ ex_ X d 24 9 [v0, v1, v2] [gv_ h a 7, w0] h Q) := R_getf (show mx_at 24 6 = some (.getfield 71, 3) by decide +kernel) (mx_fdo ow24 fd30071)
set_option maxRecDepth 20000 in
theorem i24_9 : ex_ X d 24 9 [v0, v1, v2] [.int y, .int x] h Q = if y ≤ x then ex_ X d 24 57 [v0, v1, v2] [] h Q else ex_ X d 24 12 [v0, v1, v2] [] h Q := (R_br (show mx_at 24 9 = some (.if_icmp .ge 48, 3) by decide +kernel) rfl rfl).trans mx_ite
set_option maxRecDepth 20000 in
theorem i24_12 : ex_ X d 24 12 [.ref a, v1, v2] [] h Q = ex_ X d 24 13 [.ref a, v1, v2] [.ref a] h Q := ex_nx (show mx_at 24 12 = some (.aload_n 0, 1) by decide +kernel) rfl
set_option maxRecDepth 20000 in
theorem i24_13 : ex_ X d 24 13 [v0, v1, v2] [.ref a] h Q = (gk_ h a 8 [(3, 0)] = true ∧ ex_ X d 24 16 [v0, v1, v2] [gv_ h a 8] h Q) := R_getf (show mx_at 24 13 = some (.getfield 31, 3) by decide +kernel) (mx_fdo ow24 fd30031)
set_option maxRecDepth 20000 in
theorem i24_16 : ex_ X d 24 16 [v0, v1, .int x] [w0] h Q = ex_ X d 24 17 [v0, v1, .int x] [.int x, w0] h Q := ex_nx (show mx_at 24 16 = some (.iload_n 2, 1) by decide +kernel) rfl
set_option maxRecDepth 20000 in
theorem i24_17 : ex_ X d 24 17 [v0, v1, v2] [.int i, .ref a] h Q = (ik_ h a i = true ∧ ex_ X d 24 18 [v0, v1, v2] [.int (ia_ h a i)] h Q) := R_iald (show mx_at 24 17 = some (.iaload, 1) by decide +kernel)
set_option maxRecDepth 20000 in
theorem i24_18 : ex_ X d 24 18 [v0, v1, v2] [.int x] h Q = if x ≤ 0 then ex_ X d 24 51 [v0, v1, v2] [] h Q else ex_ X d 24 21 [v0, v1, v2] [] h Q := (R_br (show mx_at 24 18 = some (.ifCond .le 33, 3) by decide +kernel) rfl rfl).trans mx_ite
set_option maxRecDepth 20000 in
theorem i24_21 : ex_ X d 24 21 [.ref a, v1, v2] [] h Q = ex_ X d 24 22 [.ref a, v1, v2] [.ref a] h Q := ex_nx (show mx_at 24 21 = some (.aload_n 0, 1) by decide +kernel) rfl
set_option maxRecDepth 20000 in
theorem i24_22 : ex_ X d 24 22 [v0, v1, v2] [.ref a] h Q = (gk_ h a 10 [(3, 0)] = true ∧ ex_ X d 24 25 [v0, v1, v2] [gv_ h a 10] h Q) := R_getf (show mx_at 24 22 = some (.getfield 37, 3) by decide +kernel) (mx_fdo ow24 fd30037)
set_option maxRecDepth 20000 in
theorem i24_25 : ex_ X d 24 25 [v0, v1, .int x] [w0] h Q = ex_ X d 24 26 [v0, v1, .int x] [.int x, w0] h Q := ex_nx (show mx_at 24 25 = some (.iload_n 2, 1) by decide +kernel) rfl
set_option maxRecDepth 20000 in
theorem i24_26 : ex_ X d 24 26 [v0, v1, v2] [.int i, .ref a] h Q = (ik_ h a i = true ∧ ex_ X d 24 27 [v0, v1, v2] [.int (ia_ h a i)] h Q) := R_iald (show mx_at 24 26 = some (.iaload, 1) by decide +kernel)
set_option maxRecDepth 20000 in
theorem i24_27 : ex_ X d 24 27 [v0, v1, v2] [.int x] h Q = if x < 0 then ex_ X d 24 51 [v0, v1, v2] [] h Q else ex_ X d 24 30 [v0, v1, v2] [] h Q := (R_br (show mx_at 24 27 = some (.ifCond .lt 24, 3) by decide +kernel) rfl rfl).trans mx_ite
set_option maxRecDepth 20000 in
theorem i24_30 : ex_ X d 24 30 [v0, .int x, v2] [] h Q = ex_ X d 24 31 [v0, .int x, v2] [.int x] h Q := ex_nx (show mx_at 24 30 = some (.iload_n 1, 1) by decide +kernel) rfl
set_option maxRecDepth 20000 in
theorem i24_31 : ex_ X d 24 31 [v0, v1, v2] [.int x] h Q = if x < 0 then ex_ X d 24 49 [v0, v1, v2] [] h Q else ex_ X d 24 34 [v0, v1, v2] [] h Q := (R_br (show mx_at 24 31 = some (.ifCond .lt 18, 3) by decide +kernel) rfl rfl).trans mx_ite
set_option maxRecDepth 20000 in
theorem i24_34 : ex_ X d 24 34 [.ref a, v1, v2] [] h Q = ex_ X d 24 35 [.ref a, v1, v2] [.ref a] h Q := ex_nx (show mx_at 24 34 = some (.aload_n 0, 1) by decide +kernel) rfl
set_option maxRecDepth 20000 in
theorem i24_35 : ex_ X d 24 35 [v0, v1, v2] [.ref a] h Q = (gk_ h a 10 [(3, 0)] = true ∧ ex_ X d 24 38 [v0, v1, v2] [gv_ h a 10] h Q) := R_getf (show mx_at 24 35 = some (.getfield 37, 3) by decide +kernel) (mx_fdo ow24 fd30037)
set_option maxRecDepth 20000 in
theorem i24_38 : ex_ X d 24 38 [v0, v1, .int x] [w0] h Q = ex_ X d 24 39 [v0, v1, .int x] [.int x, w0] h Q := ex_nx (show mx_at 24 38 = some (.iload_n 2, 1) by decide +kernel) rfl
set_option maxRecDepth 20000 in
theorem i24_39 : ex_ X d 24 39 [v0, v1, v2] [.int i, .ref a] h Q = (ik_ h a i = true ∧ ex_ X d 24 40 [v0, v1, v2] [.int (ia_ h a i)] h Q) := R_iald (show mx_at 24 39 = some (.iaload, 1) by decide +kernel)
set_option maxRecDepth 20000 in
theorem i24_40 : ex_ X d 24 40 [.ref a, v1, v2] [w0] h Q = ex_ X d 24 41 [.ref a, v1, v2] [.ref a, w0] h Q := ex_nx (show mx_at 24 40 = some (.aload_n 0, 1) by decide +kernel) rfl
set_option maxRecDepth 20000 in
theorem i24_41 : ex_ X d 24 41 [v0, v1, v2] [.ref a, w0] h Q = (gk_ h a 10 [(3, 0)] = true ∧ ex_ X d 24 44 [v0, v1, v2] [gv_ h a 10, w0] h Q) := R_getf (show mx_at 24 41 = some (.getfield 37, 3) by decide +kernel) (mx_fdo ow24 fd30037)
set_option maxRecDepth 20000 in
theorem i24_44 : ex_ X d 24 44 [v0, .int x, v2] [w0, w1] h Q = ex_ X d 24 45 [v0, .int x, v2] [.int x, w0, w1] h Q := ex_nx (show mx_at 24 44 = some (.iload_n 1, 1) by decide +kernel) rfl
set_option maxRecDepth 20000 in
theorem i24_45 : ex_ X d 24 45 [v0, v1, v2] [.int i, .ref a, w0] h Q = (ik_ h a i = true ∧ ex_ X d 24 46 [v0, v1, v2] [.int (ia_ h a i), w0] h Q) := R_iald (show mx_at 24 45 = some (.iaload, 1) by decide +kernel)
set_option maxRecDepth 20000 in
theorem i24_46 : ex_ X d 24 46 [v0, v1, v2] [.int y, .int x] h Q = if y ≤ x then ex_ X d 24 51 [v0, v1, v2] [] h Q else ex_ X d 24 49 [v0, v1, v2] [] h Q := (R_br (show mx_at 24 46 = some (.if_icmp .ge 5, 3) by decide +kernel) rfl rfl).trans mx_ite
set_option maxRecDepth 20000 in
theorem i24_49 : ex_ X d 24 49 [v0, v1, .int x] [] h Q = ex_ X d 24 50 [v0, v1, .int x] [.int x] h Q := ex_nx (show mx_at 24 49 = some (.iload_n 2, 1) by decide +kernel) rfl
set_option maxRecDepth 20000 in
theorem i24_50 : ex_ X d 24 50 [v0, v1, v2] [.int x] h Q = (mx_nl v0 = true ∧ ex_ X d 24 51 [v0, .int x, v2] [] h Q) := mx_t1 (R_st (ok := mx_isI) (n := 1) (w := 1) (show mx_at 24 50 = some (.istore_n 1, 1) by decide +kernel) (fun _ _ => rfl) (Nat.le_of_ble_eq_true rfl)) rfl
set_option maxRecDepth 20000 in
theorem i24_51 : ex_ X d 24 51 [v0, v1, .int x] [] h Q = (mx_nl v1 = true ∧ ex_ X d 24 54 [v0, v1, .int (x + 1)] [] h Q) := R_iinc (n := 2) (c := 1) (show mx_at 24 51 = some (.iinc 2 1, 3) by decide +kernel) rfl
set_option maxRecDepth 20000 in
theorem i24_54 : ex_ X d 24 54 [v0, v1, v2] [] h Q = ex_ X d 24 4 [v0, v1, v2] [] h Q := R_to (show mx_at 24 54 = some (.goto (-50), 3) by decide +kernel) rfl rfl
set_option maxRecDepth 20000 in
theorem i24_57 : ex_ X d 24 57 [v0, .int x, v2] [] h Q = ex_ X d 24 58 [v0, .int x, v2] [.int x] h Q := ex_nx (show mx_at 24 57 = some (.iload_n 1, 1) by decide +kernel) rfl
set_option maxRecDepth 20000 in
theorem i24_58 : ex_ X d 24 58 [v0, v1, v2] [.int x] h Q = Q (some (.int x)) h := ex_ret (show mx_at 24 58 = some (.ireturn, 1) by decide +kernel) (mx_retI rt24)
theorem i24_e : ev_ X d 24 [.ref a] h Q = ex_ X d 24 0 [.ref a, .double 0, .double 0] [] h Q := by rw [ev_, ml24]; rfl
-- 25 X3_allPurses
set_option maxRecDepth 20000 in
theorem i25_0 : ex_ X d 25 0 [v0, v1, v2] [] h Q = ex_ X d 25 1 [v0, v1, v2] [.int 0] h Q := R_iconst (show mx_at 25 0 = some (.iconst 0, 1) by decide +kernel) (by decide)
set_option maxRecDepth 20000 in
theorem i25_1 : ex_ X d 25 1 [v0, v1, v2] [.int x] h Q = (mx_nl v0 = true ∧ ex_ X d 25 2 [v0, .int x, v2] [] h Q) := mx_t1 (R_st (ok := mx_isI) (n := 1) (w := 1) (show mx_at 25 1 = some (.istore_n 1, 1) by decide +kernel) (fun _ _ => rfl) (Nat.le_of_ble_eq_true rfl)) rfl
set_option maxRecDepth 20000 in
theorem i25_2 : ex_ X d 25 2 [v0, v1, v2] [] h Q = ex_ X d 25 3 [v0, v1, v2] [.int 0] h Q := R_iconst (show mx_at 25 2 = some (.iconst 0, 1) by decide +kernel) (by decide)
set_option maxRecDepth 20000 in
theorem i25_3 : ex_ X d 25 3 [v0, v1, v2] [.int x] h Q = (mx_nl v1 = true ∧ ex_ X d 25 4 [v0, v1, .int x] [] h Q) := mx_t1 (R_st (ok := mx_isI) (n := 2) (w := 1) (show mx_at 25 3 = some (.istore_n 2, 1) by decide +kernel) (fun _ _ => rfl) (Nat.le_of_ble_eq_true rfl)) rfl
set_option maxRecDepth 20000 in
theorem i25_4 : ex_ X d 25 4 [v0, v1, .int x] [] h Q = ex_ X d 25 5 [v0, v1, .int x] [.int x] h Q := ex_nx (show mx_at 25 4 = some (.iload_n 2, 1) by decide +kernel) rfl
set_option maxRecDepth 20000 in
theorem i25_5 : ex_ X d 25 5 [.ref a, v1, v2] [w0] h Q = ex_ X d 25 6 [.ref a, v1, v2] [.ref a, w0] h Q := ex_nx (show mx_at 25 5 = some (.aload_n 0, 1) by decide +kernel) rfl
set_option maxRecDepth 20000 in
theorem i25_6 : ex_ X d 25 6 [v0, v1, v2] [.ref a, w0] h Q = (gk_ h a 7 [(3, 0)] = true ∧ ex_ X d 25 9 [v0, v1, v2] [gv_ h a 7, w0] h Q) := R_getf (show mx_at 25 6 = some (.getfield 71, 3) by decide +kernel) (mx_fdo ow25 fd30071)
set_option maxRecDepth 20000 in
theorem i25_9 : ex_ X d 25 9 [v0, v1, v2] [.int y, .int x] h Q = if y ≤ x then ex_ X d 25 27 [v0, v1, v2] [] h Q else ex_ X d 25 12 [v0, v1, v2] [] h Q := (R_br (show mx_at 25 9 = some (.if_icmp .ge 18, 3) by decide +kernel) rfl rfl).trans mx_ite
set_option maxRecDepth 20000 in
theorem i25_12 : ex_ X d 25 12 [v0, .int x, v2] [] h Q = ex_ X d 25 13 [v0, .int x, v2] [.int x] h Q := ex_nx (show mx_at 25 12 = some (.iload_n 1, 1) by decide +kernel) rfl
set_option maxRecDepth 20000 in
theorem i25_13 : ex_ X d 25 13 [.ref a, v1, v2] [w0] h Q = ex_ X d 25 14 [.ref a, v1, v2] [.ref a, w0] h Q := ex_nx (show mx_at 25 13 = some (.aload_n 0, 1) by decide +kernel) rfl
set_option maxRecDepth 20000 in
theorem i25_14 : ex_ X d 25 14 [v0, v1, v2] [.ref a, w0] h Q = (gk_ h a 9 [(3, 0)] = true ∧ ex_ X d 25 17 [v0, v1, v2] [gv_ h a 9, w0] h Q) := R_getf (show mx_at 25 14 = some (.getfield 34, 3) by decide +kernel) (mx_fdo ow25 fd30034)
set_option maxRecDepth 20000 in
theorem i25_17 : ex_ X d 25 17 [v0, v1, .int x] [w0, w1] h Q = ex_ X d 25 18 [v0, v1, .int x] [.int x, w0, w1] h Q := ex_nx (show mx_at 25 17 = some (.iload_n 2, 1) by decide +kernel) rfl
set_option maxRecDepth 20000 in
theorem i25_18 : ex_ X d 25 18 [v0, v1, v2] [.int i, .ref a, w0] h Q = (ik_ h a i = true ∧ ex_ X d 25 19 [v0, v1, v2] [.int (ia_ h a i), w0] h Q) := R_iald (show mx_at 25 18 = some (.iaload, 1) by decide +kernel)
set_option maxRecDepth 20000 in
theorem i25_19 : ex_ X d 25 19 [v0, v1, v2] [.int y, .int x] h Q = ex_ X d 25 20 [v0, v1, v2] [.int (x + y)] h Q := ex_nx (show mx_at 25 19 = some (.iadd, 1) by decide +kernel) rfl
set_option maxRecDepth 20000 in
theorem i25_20 : ex_ X d 25 20 [v0, v1, v2] [.int x] h Q = (mx_nl v0 = true ∧ ex_ X d 25 21 [v0, .int x, v2] [] h Q) := mx_t1 (R_st (ok := mx_isI) (n := 1) (w := 1) (show mx_at 25 20 = some (.istore_n 1, 1) by decide +kernel) (fun _ _ => rfl) (Nat.le_of_ble_eq_true rfl)) rfl
set_option maxRecDepth 20000 in
theorem i25_21 : ex_ X d 25 21 [v0, v1, .int x] [] h Q = (mx_nl v1 = true ∧ ex_ X d 25 24 [v0, v1, .int (x + 1)] [] h Q) := R_iinc (n := 2) (c := 1) (show mx_at 25 21 = some (.iinc 2 1, 3) by decide +kernel) rfl
set_option maxRecDepth 20000 in
theorem i25_24 : ex_ X d 25 24 [v0, v1, v2] [] h Q = ex_ X d 25 4 [v0, v1, v2] [] h Q := R_to (show mx_at 25 24 = some (.goto (-20), 3) by decide +kernel) rfl rfl
set_option maxRecDepth 20000 in
theorem i25_27 : ex_ X d 25 27 [v0, .int x, v2] [] h Q = ex_ X d 25 28 [v0, .int x, v2] [.int x] h Q := ex_nx (show mx_at 25 27 = some (.iload_n 1, 1) by decide +kernel) rfl
set_option maxRecDepth 20000 in
theorem i25_28 : ex_ X d 25 28 [v0, v1, v2] [.int x] h Q = Q (some (.int x)) h := ex_ret (show mx_at 25 28 = some (.ireturn, 1) by decide +kernel) (mx_retI rt25)
theorem i25_e : ev_ X d 25 [.ref a] h Q = ex_ X d 25 0 [.ref a, .double 0, .double 0] [] h Q := by rw [ev_, ml25]; rfl
-- 26 X3_allWaiting
set_option maxRecDepth 20000 in
theorem i26_0 : ex_ X d 26 0 [v0, v1, v2] [] h Q = ex_ X d 26 1 [v0, v1, v2] [.int 0] h Q := R_iconst (show mx_at 26 0 = some (.iconst 0, 1) by decide +kernel) (by decide)
set_option maxRecDepth 20000 in
theorem i26_1 : ex_ X d 26 1 [v0, v1, v2] [.int x] h Q = (mx_nl v0 = true ∧ ex_ X d 26 2 [v0, .int x, v2] [] h Q) := mx_t1 (R_st (ok := mx_isI) (n := 1) (w := 1) (show mx_at 26 1 = some (.istore_n 1, 1) by decide +kernel) (fun _ _ => rfl) (Nat.le_of_ble_eq_true rfl)) rfl
set_option maxRecDepth 20000 in
theorem i26_2 : ex_ X d 26 2 [v0, v1, v2] [] h Q = ex_ X d 26 3 [v0, v1, v2] [.int 0] h Q := R_iconst (show mx_at 26 2 = some (.iconst 0, 1) by decide +kernel) (by decide)
set_option maxRecDepth 20000 in
theorem i26_3 : ex_ X d 26 3 [v0, v1, v2] [.int x] h Q = (mx_nl v1 = true ∧ ex_ X d 26 4 [v0, v1, .int x] [] h Q) := mx_t1 (R_st (ok := mx_isI) (n := 2) (w := 1) (show mx_at 26 3 = some (.istore_n 2, 1) by decide +kernel) (fun _ _ => rfl) (Nat.le_of_ble_eq_true rfl)) rfl
set_option maxRecDepth 20000 in
theorem i26_4 : ex_ X d 26 4 [v0, v1, .int x] [] h Q = ex_ X d 26 5 [v0, v1, .int x] [.int x] h Q := ex_nx (show mx_at 26 4 = some (.iload_n 2, 1) by decide +kernel) rfl
set_option maxRecDepth 20000 in
theorem i26_5 : ex_ X d 26 5 [.ref a, v1, v2] [w0] h Q = ex_ X d 26 6 [.ref a, v1, v2] [.ref a, w0] h Q := ex_nx (show mx_at 26 5 = some (.aload_n 0, 1) by decide +kernel) rfl
set_option maxRecDepth 20000 in
theorem i26_6 : ex_ X d 26 6 [v0, v1, v2] [.ref a, w0] h Q = (gk_ h a 12 [(3, 0)] = true ∧ ex_ X d 26 9 [v0, v1, v2] [gv_ h a 12, w0] h Q) := R_getf (show mx_at 26 6 = some (.getfield 74, 3) by decide +kernel) (mx_fdo ow26 fd30074)
set_option maxRecDepth 20000 in
theorem i26_9 : ex_ X d 26 9 [v0, v1, v2] [.int y, .int x] h Q = if y ≤ x then ex_ X d 26 27 [v0, v1, v2] [] h Q else ex_ X d 26 12 [v0, v1, v2] [] h Q := (R_br (show mx_at 26 9 = some (.if_icmp .ge 18, 3) by decide +kernel) rfl rfl).trans mx_ite
set_option maxRecDepth 20000 in
theorem i26_12 : ex_ X d 26 12 [v0, .int x, v2] [] h Q = ex_ X d 26 13 [v0, .int x, v2] [.int x] h Q := ex_nx (show mx_at 26 12 = some (.iload_n 1, 1) by decide +kernel) rfl
set_option maxRecDepth 20000 in
theorem i26_13 : ex_ X d 26 13 [.ref a, v1, v2] [w0] h Q = ex_ X d 26 14 [.ref a, v1, v2] [.ref a, w0] h Q := ex_nx (show mx_at 26 13 = some (.aload_n 0, 1) by decide +kernel) rfl
set_option maxRecDepth 20000 in
theorem i26_14 : ex_ X d 26 14 [v0, v1, v2] [.ref a, w0] h Q = (gk_ h a 16 [(3, 0)] = true ∧ ex_ X d 26 17 [v0, v1, v2] [gv_ h a 16, w0] h Q) := R_getf (show mx_at 26 14 = some (.getfield 52, 3) by decide +kernel) (mx_fdo ow26 fd30052)
set_option maxRecDepth 20000 in
theorem i26_17 : ex_ X d 26 17 [v0, v1, .int x] [w0, w1] h Q = ex_ X d 26 18 [v0, v1, .int x] [.int x, w0, w1] h Q := ex_nx (show mx_at 26 17 = some (.iload_n 2, 1) by decide +kernel) rfl
set_option maxRecDepth 20000 in
theorem i26_18 : ex_ X d 26 18 [v0, v1, v2] [.int i, .ref a, w0] h Q = (ik_ h a i = true ∧ ex_ X d 26 19 [v0, v1, v2] [.int (ia_ h a i), w0] h Q) := R_iald (show mx_at 26 18 = some (.iaload, 1) by decide +kernel)
set_option maxRecDepth 20000 in
theorem i26_19 : ex_ X d 26 19 [v0, v1, v2] [.int y, .int x] h Q = ex_ X d 26 20 [v0, v1, v2] [.int (x + y)] h Q := ex_nx (show mx_at 26 19 = some (.iadd, 1) by decide +kernel) rfl
set_option maxRecDepth 20000 in
theorem i26_20 : ex_ X d 26 20 [v0, v1, v2] [.int x] h Q = (mx_nl v0 = true ∧ ex_ X d 26 21 [v0, .int x, v2] [] h Q) := mx_t1 (R_st (ok := mx_isI) (n := 1) (w := 1) (show mx_at 26 20 = some (.istore_n 1, 1) by decide +kernel) (fun _ _ => rfl) (Nat.le_of_ble_eq_true rfl)) rfl
set_option maxRecDepth 20000 in
theorem i26_21 : ex_ X d 26 21 [v0, v1, .int x] [] h Q = (mx_nl v1 = true ∧ ex_ X d 26 24 [v0, v1, .int (x + 1)] [] h Q) := R_iinc (n := 2) (c := 1) (show mx_at 26 21 = some (.iinc 2 1, 3) by decide +kernel) rfl
set_option maxRecDepth 20000 in
theorem i26_24 : ex_ X d 26 24 [v0, v1, v2] [] h Q = ex_ X d 26 4 [v0, v1, v2] [] h Q := R_to (show mx_at 26 24 = some (.goto (-20), 3) by decide +kernel) rfl rfl
set_option maxRecDepth 20000 in
theorem i26_27 : ex_ X d 26 27 [v0, .int x, v2] [] h Q = ex_ X d 26 28 [v0, .int x, v2] [.int x] h Q := ex_nx (show mx_at 26 27 = some (.iload_n 1, 1) by decide +kernel) rfl
set_option maxRecDepth 20000 in
theorem i26_28 : ex_ X d 26 28 [v0, v1, v2] [.int x] h Q = Q (some (.int x)) h := ex_ret (show mx_at 26 28 = some (.ireturn, 1) by decide +kernel) (mx_retI rt26)
theorem i26_e : ev_ X d 26 [.ref a] h Q = ex_ X d 26 0 [.ref a, .double 0, .double 0] [] h Q := by rw [ev_, ml26]; rfl
-- 27 X3_takeLostPairs
set_option maxRecDepth 20000 in
theorem i27_0 : ex_ X d 27 0 [v0, v1, v2, v3, v4, v5, v6] [] h Q = ex_ X d 27 1 [v0, v1, v2, v3, v4, v5, v6] [.int 0] h Q := R_iconst (show mx_at 27 0 = some (.iconst 0, 1) by decide +kernel) (by decide)
set_option maxRecDepth 20000 in
theorem i27_1 : ex_ X d 27 1 [v0, v1, v2, v3, v4, v5, v6] [.int x] h Q = (mx_nl v0 = true ∧ ex_ X d 27 2 [v0, .int x, v2, v3, v4, v5, v6] [] h Q) := mx_t1 (R_st (ok := mx_isI) (n := 1) (w := 1) (show mx_at 27 1 = some (.istore_n 1, 1) by decide +kernel) (fun _ _ => rfl) (Nat.le_of_ble_eq_true rfl)) rfl
set_option maxRecDepth 20000 in
theorem i27_2 : ex_ X d 27 2 [v0, v1, v2, v3, v4, v5, v6] [] h Q = ex_ X d 27 3 [v0, v1, v2, v3, v4, v5, v6] [.int 0] h Q := R_iconst (show mx_at 27 2 = some (.iconst 0, 1) by decide +kernel) (by decide)
set_option maxRecDepth 20000 in
theorem i27_3 : ex_ X d 27 3 [v0, v1, v2, v3, v4, v5, v6] [.int x] h Q = (mx_nl v1 = true ∧ ex_ X d 27 4 [v0, v1, .int x, v3, v4, v5, v6] [] h Q) := mx_t1 (R_st (ok := mx_isI) (n := 2) (w := 1) (show mx_at 27 3 = some (.istore_n 2, 1) by decide +kernel) (fun _ _ => rfl) (Nat.le_of_ble_eq_true rfl)) rfl
set_option maxRecDepth 20000 in
theorem i27_4 : ex_ X d 27 4 [v0, v1, .int x, v3, v4, v5, v6] [] h Q = ex_ X d 27 5 [v0, v1, .int x, v3, v4, v5, v6] [.int x] h Q := ex_nx (show mx_at 27 4 = some (.iload_n 2, 1) by decide +kernel) rfl
set_option maxRecDepth 20000 in
theorem i27_5 : ex_ X d 27 5 [.ref a, v1, v2, v3, v4, v5, v6] [w0] h Q = ex_ X d 27 6 [.ref a, v1, v2, v3, v4, v5, v6] [.ref a, w0] h Q := ex_nx (show mx_at 27 5 = some (.aload_n 0, 1) by decide +kernel) rfl
set_option maxRecDepth 20000 in
theorem i27_6 : ex_ X d 27 6 [v0, v1, v2, v3, v4, v5, v6] [.ref a, w0] h Q = (gk_ h a 12 [(3, 0)] = true ∧ ex_ X d 27 9 [v0, v1, v2, v3, v4, v5, v6] [gv_ h a 12, w0] h Q) := R_getf (show mx_at 27 6 = some (.getfield 74, 3) by decide +kernel) (mx_fdo ow27 fd30074)
set_option maxRecDepth 20000 in
theorem i27_9 : ex_ X d 27 9 [v0, v1, v2, v3, v4, v5, v6] [.int y, .int x] h Q = if y ≤ x then ex_ X d 27 100 [v0, v1, v2, v3, v4, v5, v6] [] h Q else ex_ X d 27 12 [v0, v1, v2, v3, v4, v5, v6] [] h Q := (R_br (show mx_at 27 9 = some (.if_icmp .ge 91, 3) by decide +kernel) rfl rfl).trans mx_ite
set_option maxRecDepth 20000 in
theorem i27_12 : ex_ X d 27 12 [.ref a, v1, v2, v3, v4, v5, v6] [] h Q = ex_ X d 27 13 [.ref a, v1, v2, v3, v4, v5, v6] [.ref a] h Q := ex_nx (show mx_at 27 12 = some (.aload_n 0, 1) by decide +kernel) rfl
set_option maxRecDepth 20000 in
theorem i27_13 : ex_ X d 27 13 [v0, v1, v2, v3, v4, v5, v6] [.ref a] h Q = (gk_ h a 16 [(3, 0)] = true ∧ ex_ X d 27 16 [v0, v1, v2, v3, v4, v5, v6] [gv_ h a 16] h Q) := R_getf (show mx_at 27 13 = some (.getfield 52, 3) by decide +kernel) (mx_fdo ow27 fd30052)
set_option maxRecDepth 20000 in
theorem i27_16 : ex_ X d 27 16 [v0, v1, .int x, v3, v4, v5, v6] [w0] h Q = ex_ X d 27 17 [v0, v1, .int x, v3, v4, v5, v6] [.int x, w0] h Q := ex_nx (show mx_at 27 16 = some (.iload_n 2, 1) by decide +kernel) rfl
set_option maxRecDepth 20000 in
theorem i27_17 : ex_ X d 27 17 [v0, v1, v2, v3, v4, v5, v6] [.int i, .ref a] h Q = (ik_ h a i = true ∧ ex_ X d 27 18 [v0, v1, v2, v3, v4, v5, v6] [.int (ia_ h a i)] h Q) := R_iald (show mx_at 27 17 = some (.iaload, 1) by decide +kernel)
set_option maxRecDepth 20000 in
theorem i27_18 : ex_ X d 27 18 [v0, v1, v2, v3, v4, v5, v6] [.int x] h Q = (mx_nl v2 = true ∧ ex_ X d 27 19 [v0, v1, v2, .int x, v4, v5, v6] [] h Q) := mx_t1 (R_st (ok := mx_isI) (n := 3) (w := 1) (show mx_at 27 18 = some (.istore_n 3, 1) by decide +kernel) (fun _ _ => rfl) (Nat.le_of_ble_eq_true rfl)) rfl
set_option maxRecDepth 20000 in
theorem i27_19 : ex_ X d 27 19 [.ref a, v1, v2, v3, v4, v5, v6] [] h Q = ex_ X d 27 20 [.ref a, v1, v2, v3, v4, v5, v6] [.ref a] h Q := ex_nx (show mx_at 27 19 = some (.aload_n 0, 1) by decide +kernel) rfl
set_option maxRecDepth 20000 in
theorem i27_20 : ex_ X d 27 20 [v0, v1, .int x, v3, v4, v5, v6] [w0] h Q = ex_ X d 27 21 [v0, v1, .int x, v3, v4, v5, v6] [.int x, w0] h Q := ex_nx (show mx_at 27 20 = some (.iload_n 2, 1) by decide +kernel) rfl
set_option maxRecDepth 20000 in
theorem i27_21 (hc : co_ h a = some 3) : ex_ X (d + 1) 27 21 [v0, v1, v2, v3, v4, v5, v6] [.int x0, .ref a] h Q = ev_ X d 15 [.ref a, .int x0] h (fun r h' => ex_ X (d + 1) 27 24 [v0, v1, v2, v3, v4, v5, v6] (r.toList ++ []) h' Q) := R_vir (show mx_at 27 21 = some (.invokevirtual 135, 3) by decide +kernel) (mx_clk ow27 cc3_135) (Nat.le_of_ble_eq_true rfl) rfl rfl hc rfl (Nat.le_of_ble_eq_true rfl) (Nat.le_of_ble_eq_true rfl) (by rw [ml15]; exact Nat.le_of_ble_eq_true rfl)
set_option maxRecDepth 20000 in
theorem i27_24 : ex_ X d 27 24 [v0, v1, v2, v3, v4, v5, v6] [.int x] h Q = (mx_nl v3 = true ∧ ex_ X d 27 26 [v0, v1, v2, v3, .int x, v5, v6] [] h Q) := mx_t1 (R_st (ok := mx_isI) (n := 4) (w := 2) (show mx_at 27 24 = some (.istore 4, 2) by decide +kernel) (fun _ _ => rfl) (Nat.le_of_ble_eq_true rfl)) rfl
set_option maxRecDepth 20000 in
theorem i27_26 : ex_ X d 27 26 [v0, v1, v2, v3, v4, v5, v6] [] h Q = ex_ X d 27 27 [v0, v1, v2, v3, v4, v5, v6] [.int 0] h Q := R_iconst (show mx_at 27 26 = some (.iconst 0, 1) by decide +kernel) (by decide)
set_option maxRecDepth 20000 in
theorem i27_27 : ex_ X d 27 27 [v0, v1, v2, v3, v4, v5, v6] [.int x] h Q = (mx_nl v4 = true ∧ ex_ X d 27 29 [v0, v1, v2, v3, v4, .int x, v6] [] h Q) := mx_t1 (R_st (ok := mx_isI) (n := 5) (w := 2) (show mx_at 27 27 = some (.istore 5, 2) by decide +kernel) (fun _ _ => rfl) (Nat.le_of_ble_eq_true rfl)) rfl
set_option maxRecDepth 20000 in
theorem i27_29 : ex_ X d 27 29 [v0, v1, v2, v3, v4, .int x, v6] [] h Q = ex_ X d 27 31 [v0, v1, v2, v3, v4, .int x, v6] [.int x] h Q := ex_nx (show mx_at 27 29 = some (.iload 5, 2) by decide +kernel) rfl
set_option maxRecDepth 20000 in
theorem i27_31 : ex_ X d 27 31 [.ref a, v1, v2, v3, v4, v5, v6] [w0] h Q = ex_ X d 27 32 [.ref a, v1, v2, v3, v4, v5, v6] [.ref a, w0] h Q := ex_nx (show mx_at 27 31 = some (.aload_n 0, 1) by decide +kernel) rfl
set_option maxRecDepth 20000 in
theorem i27_32 : ex_ X d 27 32 [v0, v1, v2, v3, v4, v5, v6] [.ref a, w0] h Q = (gk_ h a 7 [(3, 0)] = true ∧ ex_ X d 27 35 [v0, v1, v2, v3, v4, v5, v6] [gv_ h a 7, w0] h Q) := R_getf (show mx_at 27 32 = some (.getfield 71, 3) by decide +kernel) (mx_fdo ow27 fd30071)
set_option maxRecDepth 20000 in
theorem i27_35 : ex_ X d 27 35 [v0, v1, v2, v3, v4, v5, v6] [.int y, .int x] h Q = if y ≤ x then ex_ X d 27 94 [v0, v1, v2, v3, v4, v5, v6] [] h Q else ex_ X d 27 38 [v0, v1, v2, v3, v4, v5, v6] [] h Q := (R_br (show mx_at 27 35 = some (.if_icmp .ge 59, 3) by decide +kernel) rfl rfl).trans mx_ite
set_option maxRecDepth 20000 in
theorem i27_38 : ex_ X d 27 38 [.ref a, v1, v2, v3, v4, v5, v6] [] h Q = ex_ X d 27 39 [.ref a, v1, v2, v3, v4, v5, v6] [.ref a] h Q := ex_nx (show mx_at 27 38 = some (.aload_n 0, 1) by decide +kernel) rfl
set_option maxRecDepth 20000 in
theorem i27_39 : ex_ X d 27 39 [v0, v1, v2, v3, v4, v5, v6] [.ref a] h Q = (gk_ h a 6 [(3, 0)] = true ∧ ex_ X d 27 42 [v0, v1, v2, v3, v4, v5, v6] [gv_ h a 6] h Q) := R_getf (show mx_at 27 39 = some (.getfield 27, 3) by decide +kernel) (mx_fdo ow27 fd30027)
set_option maxRecDepth 20000 in
theorem i27_42 : ex_ X d 27 42 [v0, v1, v2, v3, v4, .int x, v6] [w0] h Q = ex_ X d 27 44 [v0, v1, v2, v3, v4, .int x, v6] [.int x, w0] h Q := ex_nx (show mx_at 27 42 = some (.iload 5, 2) by decide +kernel) rfl
set_option maxRecDepth 20000 in
theorem i27_44 : ex_ X d 27 44 [v0, v1, v2, v3, v4, v5, v6] [.int i, .ref a] h Q = (rk_ h a i = true ∧ ex_ X d 27 45 [v0, v1, v2, v3, v4, v5, v6] [mx_vr (ra_ h a i)] h Q) := R_aald (show mx_at 27 44 = some (.aaload, 1) by decide +kernel)
set_option maxRecDepth 20000 in
theorem i27_45 : ex_ X d 27 45 [v0, v1, v2, v3, v4, v5, v6] [.ref a] h Q = (gk_ h a 3 [(0, 0), (1, 0), (2, 0), (4, 0), (6, 0), (8, 0), (9, 0)] = true ∧ ex_ X d 27 48 [v0, v1, v2, v3, v4, v5, v6] [gv_ h a 3] h Q) := R_getf (show mx_at 27 45 = some (.getfield 83, 3) by decide +kernel) (mx_fdo ow27 fd30083)
set_option maxRecDepth 20000 in
theorem i27_48 : ex_ X d 27 48 [v0, v1, v2, v3, .int x, v5, v6] [w0] h Q = ex_ X d 27 50 [v0, v1, v2, v3, .int x, v5, v6] [.int x, w0] h Q := ex_nx (show mx_at 27 48 = some (.iload 4, 2) by decide +kernel) rfl
set_option maxRecDepth 20000 in
theorem i27_50 : ex_ X d 27 50 [v0, v1, v2, v3, v4, v5, v6] [.int y, .int x] h Q = if y < x then ex_ X d 27 88 [v0, v1, v2, v3, v4, v5, v6] [] h Q else ex_ X d 27 53 [v0, v1, v2, v3, v4, v5, v6] [] h Q := (R_br (show mx_at 27 50 = some (.if_icmp .gt 38, 3) by decide +kernel) rfl rfl).trans mx_ite
set_option maxRecDepth 20000 in
theorem i27_53 : ex_ X d 27 53 [v0, v1, v2, .int x, v4, v5, v6] [] h Q = ex_ X d 27 54 [v0, v1, v2, .int x, v4, v5, v6] [.int x] h Q := ex_nx (show mx_at 27 53 = some (.iload_n 3, 1) by decide +kernel) rfl
set_option maxRecDepth 20000 in
theorem i27_54 : ex_ X d 27 54 [.ref a, v1, v2, v3, v4, v5, v6] [w0] h Q = ex_ X d 27 55 [.ref a, v1, v2, v3, v4, v5, v6] [.ref a, w0] h Q := ex_nx (show mx_at 27 54 = some (.aload_n 0, 1) by decide +kernel) rfl
set_option maxRecDepth 20000 in
theorem i27_55 : ex_ X d 27 55 [v0, v1, v2, v3, v4, v5, v6] [.ref a, w0] h Q = (gk_ h a 8 [(3, 0)] = true ∧ ex_ X d 27 58 [v0, v1, v2, v3, v4, v5, v6] [gv_ h a 8, w0] h Q) := R_getf (show mx_at 27 55 = some (.getfield 31, 3) by decide +kernel) (mx_fdo ow27 fd30031)
set_option maxRecDepth 20000 in
theorem i27_58 : ex_ X d 27 58 [v0, v1, v2, v3, v4, .int x, v6] [w0, w1] h Q = ex_ X d 27 60 [v0, v1, v2, v3, v4, .int x, v6] [.int x, w0, w1] h Q := ex_nx (show mx_at 27 58 = some (.iload 5, 2) by decide +kernel) rfl
set_option maxRecDepth 20000 in
theorem i27_60 : ex_ X d 27 60 [v0, v1, v2, v3, v4, v5, v6] [.int i, .ref a, w0] h Q = (ik_ h a i = true ∧ ex_ X d 27 61 [v0, v1, v2, v3, v4, v5, v6] [.int (ia_ h a i), w0] h Q) := R_iald (show mx_at 27 60 = some (.iaload, 1) by decide +kernel)
set_option maxRecDepth 20000 in
theorem i27_61 : ex_ X (d + 1) 27 61 [v0, v1, v2, v3, v4, v5, v6] [.int y, .int x] h Q = ex_ X (d + 1) 27 64 [v0, v1, v2, v3, v4, v5, v6] [.int (if y < x then y else x)] h Q := R_min (show mx_at 27 61 = some (.invokestatic 129, 3) by decide +kernel) (mx_clk ow27 cc3_129) (Nat.le_of_ble_eq_true rfl)
set_option maxRecDepth 20000 in
theorem i27_64 : ex_ X d 27 64 [v0, v1, v2, v3, v4, v5, v6] [.int x] h Q = (mx_nl v5 = true ∧ ex_ X d 27 66 [v0, v1, v2, v3, v4, v5, .int x] [] h Q) := mx_t1 (R_st (ok := mx_isI) (n := 6) (w := 2) (show mx_at 27 64 = some (.istore 6, 2) by decide +kernel) (fun _ _ => rfl) (Nat.le_of_ble_eq_true rfl)) rfl
set_option maxRecDepth 20000 in
theorem i27_66 : ex_ X d 27 66 [.ref a, v1, v2, v3, v4, v5, v6] [] h Q = ex_ X d 27 67 [.ref a, v1, v2, v3, v4, v5, v6] [.ref a] h Q := ex_nx (show mx_at 27 66 = some (.aload_n 0, 1) by decide +kernel) rfl
set_option maxRecDepth 20000 in
theorem i27_67 : ex_ X d 27 67 [v0, v1, v2, v3, v4, v5, v6] [.ref a] h Q = (gk_ h a 8 [(3, 0)] = true ∧ ex_ X d 27 70 [v0, v1, v2, v3, v4, v5, v6] [gv_ h a 8] h Q) := R_getf (show mx_at 27 67 = some (.getfield 31, 3) by decide +kernel) (mx_fdo ow27 fd30031)
set_option maxRecDepth 20000 in
theorem i27_70 : ex_ X d 27 70 [v0, v1, v2, v3, v4, .int x, v6] [w0] h Q = ex_ X d 27 72 [v0, v1, v2, v3, v4, .int x, v6] [.int x, w0] h Q := ex_nx (show mx_at 27 70 = some (.iload 5, 2) by decide +kernel) rfl
set_option maxRecDepth 20000 in
theorem i27_72 : ex_ X d 27 72 [v0, v1, v2, v3, v4, v5, v6] [.int x, .ref a] h Q = ex_ X d 27 73 [v0, v1, v2, v3, v4, v5, v6] [.int x, .ref a, .int x, .ref a] h Q := ex_nx (show mx_at 27 72 = some (.dup2, 1) by decide +kernel) rfl
set_option maxRecDepth 20000 in
theorem i27_73 : ex_ X d 27 73 [v0, v1, v2, v3, v4, v5, v6] [.int i, .ref a, w0, w1] h Q = (ik_ h a i = true ∧ ex_ X d 27 74 [v0, v1, v2, v3, v4, v5, v6] [.int (ia_ h a i), w0, w1] h Q) := R_iald (show mx_at 27 73 = some (.iaload, 1) by decide +kernel)
set_option maxRecDepth 20000 in
theorem i27_74 : ex_ X d 27 74 [v0, v1, v2, v3, v4, v5, .int x] [w0, w1, w2] h Q = ex_ X d 27 76 [v0, v1, v2, v3, v4, v5, .int x] [.int x, w0, w1, w2] h Q := ex_nx (show mx_at 27 74 = some (.iload 6, 2) by decide +kernel) rfl
set_option maxRecDepth 20000 in
theorem i27_76 : ex_ X d 27 76 [v0, v1, v2, v3, v4, v5, v6] [.int y, .int x, w0, w1] h Q = ex_ X d 27 77 [v0, v1, v2, v3, v4, v5, v6] [.int (x - y), w0, w1] h Q := ex_nx (show mx_at 27 76 = some (.isub, 1) by decide +kernel) rfl
set_option maxRecDepth 20000 in
theorem i27_77 : ex_ X d 27 77 [v0, v1, v2, v3, v4, v5, v6] [.int x, .int i, .ref a] h Q = (ik_ h a i = true ∧ ex_ X d 27 78 [v0, v1, v2, v3, v4, v5, v6] [] (is_ h a i x) Q) := R_iast (show mx_at 27 77 = some (.iastore, 1) by decide +kernel)
set_option maxRecDepth 20000 in
theorem i27_78 : ex_ X d 27 78 [v0, v1, v2, .int x, v4, v5, v6] [] h Q = ex_ X d 27 79 [v0, v1, v2, .int x, v4, v5, v6] [.int x] h Q := ex_nx (show mx_at 27 78 = some (.iload_n 3, 1) by decide +kernel) rfl
set_option maxRecDepth 20000 in
theorem i27_79 : ex_ X d 27 79 [v0, v1, v2, v3, v4, v5, .int x] [w0] h Q = ex_ X d 27 81 [v0, v1, v2, v3, v4, v5, .int x] [.int x, w0] h Q := ex_nx (show mx_at 27 79 = some (.iload 6, 2) by decide +kernel) rfl
set_option maxRecDepth 20000 in
theorem i27_81 : ex_ X d 27 81 [v0, v1, v2, v3, v4, v5, v6] [.int y, .int x] h Q = ex_ X d 27 82 [v0, v1, v2, v3, v4, v5, v6] [.int (x - y)] h Q := ex_nx (show mx_at 27 81 = some (.isub, 1) by decide +kernel) rfl
set_option maxRecDepth 20000 in
theorem i27_82 : ex_ X d 27 82 [v0, v1, v2, v3, v4, v5, v6] [.int x] h Q = (mx_nl v2 = true ∧ ex_ X d 27 83 [v0, v1, v2, .int x, v4, v5, v6] [] h Q) := mx_t1 (R_st (ok := mx_isI) (n := 3) (w := 1) (show mx_at 27 82 = some (.istore_n 3, 1) by decide +kernel) (fun _ _ => rfl) (Nat.le_of_ble_eq_true rfl)) rfl
set_option maxRecDepth 20000 in
theorem i27_83 : ex_ X d 27 83 [v0, .int x, v2, v3, v4, v5, v6] [] h Q = ex_ X d 27 84 [v0, .int x, v2, v3, v4, v5, v6] [.int x] h Q := ex_nx (show mx_at 27 83 = some (.iload_n 1, 1) by decide +kernel) rfl
set_option maxRecDepth 20000 in
theorem i27_84 : ex_ X d 27 84 [v0, v1, v2, v3, v4, v5, .int x] [w0] h Q = ex_ X d 27 86 [v0, v1, v2, v3, v4, v5, .int x] [.int x, w0] h Q := ex_nx (show mx_at 27 84 = some (.iload 6, 2) by decide +kernel) rfl
set_option maxRecDepth 20000 in
theorem i27_86 : ex_ X d 27 86 [v0, v1, v2, v3, v4, v5, v6] [.int y, .int x] h Q = ex_ X d 27 87 [v0, v1, v2, v3, v4, v5, v6] [.int (x + y)] h Q := ex_nx (show mx_at 27 86 = some (.iadd, 1) by decide +kernel) rfl
set_option maxRecDepth 20000 in
theorem i27_87 : ex_ X d 27 87 [v0, v1, v2, v3, v4, v5, v6] [.int x] h Q = (mx_nl v0 = true ∧ ex_ X d 27 88 [v0, .int x, v2, v3, v4, v5, v6] [] h Q) := mx_t1 (R_st (ok := mx_isI) (n := 1) (w := 1) (show mx_at 27 87 = some (.istore_n 1, 1) by decide +kernel) (fun _ _ => rfl) (Nat.le_of_ble_eq_true rfl)) rfl
set_option maxRecDepth 20000 in
theorem i27_88 : ex_ X d 27 88 [v0, v1, v2, v3, v4, .int x, v6] [] h Q = (mx_nl v4 = true ∧ ex_ X d 27 91 [v0, v1, v2, v3, v4, .int (x + 1), v6] [] h Q) := R_iinc (n := 5) (c := 1) (show mx_at 27 88 = some (.iinc 5 1, 3) by decide +kernel) rfl
set_option maxRecDepth 20000 in
theorem i27_91 : ex_ X d 27 91 [v0, v1, v2, v3, v4, v5, v6] [] h Q = ex_ X d 27 29 [v0, v1, v2, v3, v4, v5, v6] [] h Q := R_to (show mx_at 27 91 = some (.goto (-62), 3) by decide +kernel) rfl rfl
set_option maxRecDepth 20000 in
theorem i27_94 : ex_ X d 27 94 [v0, v1, .int x, v3, v4, v5, v6] [] h Q = (mx_nl v1 = true ∧ ex_ X d 27 97 [v0, v1, .int (x + 1), v3, v4, v5, v6] [] h Q) := R_iinc (n := 2) (c := 1) (show mx_at 27 94 = some (.iinc 2 1, 3) by decide +kernel) rfl
set_option maxRecDepth 20000 in
theorem i27_97 : ex_ X d 27 97 [v0, v1, v2, v3, v4, v5, v6] [] h Q = ex_ X d 27 4 [v0, v1, v2, v3, v4, v5, v6] [] h Q := R_to (show mx_at 27 97 = some (.goto (-93), 3) by decide +kernel) rfl rfl
set_option maxRecDepth 20000 in
theorem i27_100 : ex_ X d 27 100 [v0, .int x, v2, v3, v4, v5, v6] [] h Q = ex_ X d 27 101 [v0, .int x, v2, v3, v4, v5, v6] [.int x] h Q := ex_nx (show mx_at 27 100 = some (.iload_n 1, 1) by decide +kernel) rfl
set_option maxRecDepth 20000 in
theorem i27_101 : ex_ X d 27 101 [v0, v1, v2, v3, v4, v5, v6] [.int x] h Q = Q (some (.int x)) h := ex_ret (show mx_at 27 101 = some (.ireturn, 1) by decide +kernel) (mx_retI rt27)
theorem i27_e : ev_ X d 27 [.ref a] h Q = ex_ X d 27 0 [.ref a, .double 0, .double 0, .double 0, .double 0, .double 0, .double 0] [] h Q := by rw [ev_, ml27]; rfl
-- 28 X3_heldPrice
set_option maxRecDepth 20000 in
theorem i28_0 : ex_ X d 28 0 [v0] [] h Q = ex_ X d 28 1 [v0] [.int 0] h Q := R_iconst (show mx_at 28 0 = some (.iconst 0, 1) by decide +kernel) (by decide)
set_option maxRecDepth 20000 in
theorem i28_1 : ex_ X d 28 1 [.int x] [w0] h Q = ex_ X d 28 2 [.int x] [.int x, w0] h Q := ex_nx (show mx_at 28 1 = some (.iload_n 0, 1) by decide +kernel) rfl
set_option maxRecDepth 20000 in
theorem i28_2 : ex_ X d 28 2 [v0] [w0, w1] h Q = ex_ X d 28 5 [v0] [.int 999, w0, w1] h Q := R_sipush (show mx_at 28 2 = some (.sipush 999, 3) by decide +kernel) (by decide)
set_option maxRecDepth 20000 in
theorem i28_5 : ex_ X (d + 1) 28 5 [v0] [.int y, .int x, w0] h Q = ex_ X (d + 1) 28 8 [v0] [.int (if y < x then y else x), w0] h Q := R_min (show mx_at 28 5 = some (.invokestatic 129, 3) by decide +kernel) (mx_clk ow28 cc3_129) (Nat.le_of_ble_eq_true rfl)
set_option maxRecDepth 20000 in
theorem i28_8 : ex_ X (d + 1) 28 8 [v0] [.int y, .int x] h Q = ex_ X (d + 1) 28 11 [v0] [.int (if x < y then y else x)] h Q := R_max (show mx_at 28 8 = some (.invokestatic 114, 3) by decide +kernel) (mx_clk ow28 cc3_114) (Nat.le_of_ble_eq_true rfl)
set_option maxRecDepth 20000 in
theorem i28_11 : ex_ X d 28 11 [v0] [.int x] h Q = Q (some (.int x)) h := ex_ret (show mx_at 28 11 = some (.ireturn, 1) by decide +kernel) (mx_retI rt28)
theorem i28_e : ev_ X d 28 [.int x0] h Q = ex_ X d 28 0 [.int x0] [] h Q := by rw [ev_, ml28]; rfl
-- 29 X3_heldPurse
set_option maxRecDepth 20000 in
theorem i29_0 : ex_ X d 29 0 [v0] [] h Q = ex_ X d 29 2 [v0] [.int (-99999999)] h Q := R_ldc (show mx_at 29 0 = some (.ldc 138, 2) by decide +kernel) (by decide) ow29 ki30138
set_option maxRecDepth 20000 in
theorem i29_2 : ex_ X d 29 2 [.int x] [w0] h Q = ex_ X d 29 3 [.int x] [.int x, w0] h Q := ex_nx (show mx_at 29 2 = some (.iload_n 0, 1) by decide +kernel) rfl
set_option maxRecDepth 20000 in
theorem i29_3 : ex_ X d 29 3 [v0] [w0, w1] h Q = ex_ X d 29 5 [v0] [.int 99999999, w0, w1] h Q := R_ldc (show mx_at 29 3 = some (.ldc 139, 2) by decide +kernel) (by decide) ow29 ki30139
set_option maxRecDepth 20000 in
theorem i29_5 : ex_ X (d + 1) 29 5 [v0] [.int y, .int x, w0] h Q = ex_ X (d + 1) 29 8 [v0] [.int (if y < x then y else x), w0] h Q := R_min (show mx_at 29 5 = some (.invokestatic 129, 3) by decide +kernel) (mx_clk ow29 cc3_129) (Nat.le_of_ble_eq_true rfl)
set_option maxRecDepth 20000 in
theorem i29_8 : ex_ X (d + 1) 29 8 [v0] [.int y, .int x] h Q = ex_ X (d + 1) 29 11 [v0] [.int (if x < y then y else x)] h Q := R_max (show mx_at 29 8 = some (.invokestatic 114, 3) by decide +kernel) (mx_clk ow29 cc3_114) (Nat.le_of_ble_eq_true rfl)
set_option maxRecDepth 20000 in
theorem i29_11 : ex_ X d 29 11 [v0] [.int x] h Q = Q (some (.int x)) h := ex_ret (show mx_at 29 11 = some (.ireturn, 1) by decide +kernel) (mx_retI rt29)
theorem i29_e : ev_ X d 29 [.int x0] h Q = ex_ X d 29 0 [.int x0] [] h Q := by rw [ev_, ml29]; rfl
-- 30 X4_init
set_option maxRecDepth 20000 in
theorem i30_0 : ex_ X d 30 0 [.ref a, v1, v2, v3, v4, v5] [] h Q = ex_ X d 30 1 [.ref a, v1, v2, v3, v4, v5] [.ref a] h Q := ex_nx (show mx_at 30 0 = some (.aload_n 0, 1) by decide +kernel) rfl
set_option maxRecDepth 20000 in
theorem i30_1 : ex_ X d 30 1 [v0, .int x, v2, v3, v4, v5] [w0] h Q = ex_ X d 30 2 [v0, .int x, v2, v3, v4, v5] [.int x, w0] h Q := ex_nx (show mx_at 30 1 = some (.iload_n 1, 1) by decide +kernel) rfl
set_option maxRecDepth 20000 in
theorem i30_2 : ex_ X d 30 2 [v0, v1, .int x, v3, v4, v5] [w0, w1] h Q = ex_ X d 30 3 [v0, v1, .int x, v3, v4, v5] [.int x, w0, w1] h Q := ex_nx (show mx_at 30 2 = some (.iload_n 2, 1) by decide +kernel) rfl
set_option maxRecDepth 20000 in
theorem i30_3 : ex_ X d 30 3 [v0, v1, v2, .int x, v4, v5] [w0, w1, w2] h Q = ex_ X d 30 4 [v0, v1, v2, .int x, v4, v5] [.int x, w0, w1, w2] h Q := ex_nx (show mx_at 30 3 = some (.iload_n 3, 1) by decide +kernel) rfl
set_option maxRecDepth 20000 in
theorem i30_4 : ex_ X d 30 4 [v0, v1, v2, v3, .int x, v5] [w0, w1, w2, w3] h Q = ex_ X d 30 6 [v0, v1, v2, v3, .int x, v5] [.int x, w0, w1, w2, w3] h Q := ex_nx (show mx_at 30 4 = some (.iload 4, 2) by decide +kernel) rfl
set_option maxRecDepth 20000 in
theorem i30_6 : ex_ X d 30 6 [v0, v1, v2, v3, v4, .int x] [w0, w1, w2, w3, w4] h Q = ex_ X d 30 8 [v0, v1, v2, v3, v4, .int x] [.int x, w0, w1, w2, w3, w4] h Q := ex_nx (show mx_at 30 6 = some (.iload 5, 2) by decide +kernel) rfl
set_option maxRecDepth 20000 in
theorem i30_8 : ex_ X (d + 1) 30 8 [v0, v1, v2, v3, v4, v5] [.int x4, .int x3, .int x2, .int x1, .int x0, .ref a] h Q = ev_ X d 0 [.ref a, .int x0, .int x1, .int x2, .int x3, .int x4] h (fun r h' => ex_ X (d + 1) 30 11 [v0, v1, v2, v3, v4, v5] (r.toList ++ []) h' Q) := R_ctor (show mx_at 30 8 = some (.invokespecial 1, 3) by decide +kernel) (mx_clk ow30 cc4_1) (by decide) (Nat.le_of_ble_eq_true rfl) rfl rfl (Nat.le_of_ble_eq_true rfl) ml0 (Nat.le_of_ble_eq_true rfl)
set_option maxRecDepth 20000 in
theorem i30_11 : ex_ X d 30 11 [v0, v1, v2, v3, v4, v5] [] h Q = Q none h := ex_ret (show mx_at 30 11 = some (.return_, 1) by decide +kernel) (mx_retV rt30)
theorem i30_e : ev_ X d 30 [.ref a, .int x0, .int x1, .int x2, .int x3, .int x4] h Q = ex_ X d 30 0 [.ref a, .int x0, .int x1, .int x2, .int x3, .int x4] [] h Q := by rw [ev_, ml30]; rfl
-- 31 X4_wishes
set_option maxRecDepth 20000 in
theorem i31_0 : ex_ X d 31 0 [.ref a, v1, v2] [] h Q = ex_ X d 31 1 [.ref a, v1, v2] [.ref a] h Q := ex_nx (show mx_at 31 0 = some (.aload_n 0, 1) by decide +kernel) rfl
set_option maxRecDepth 20000 in
theorem i31_1 : ex_ X d 31 1 [v0, .int x, v2] [w0] h Q = ex_ X d 31 2 [v0, .int x, v2] [.int x, w0] h Q := ex_nx (show mx_at 31 1 = some (.iload_n 1, 1) by decide +kernel) rfl
set_option maxRecDepth 20000 in
theorem i31_2 : ex_ X d 31 2 [v0, v1, .int x] [w0, w1] h Q = ex_ X d 31 3 [v0, v1, .int x] [.int x, w0, w1] h Q := ex_nx (show mx_at 31 2 = some (.iload_n 2, 1) by decide +kernel) rfl
set_option maxRecDepth 20000 in
theorem i31_3 (hc : co_ h a = some 4) : ex_ X (d + 1) 31 3 [v0, v1, v2] [.int x1, .int x0, .ref a] h Q = ev_ X d 32 [.ref a, .int x0, .int x1] h (fun r h' => ex_ X (d + 1) 31 6 [v0, v1, v2] (r.toList ++ []) h' Q) := R_vir (show mx_at 31 3 = some (.invokevirtual 7, 3) by decide +kernel) (mx_clk ow31 cc4_7) (Nat.le_of_ble_eq_true rfl) rfl rfl hc rfl (Nat.le_of_ble_eq_true rfl) (Nat.le_of_ble_eq_true rfl) (by rw [ml32]; exact Nat.le_of_ble_eq_true rfl)
set_option maxRecDepth 20000 in
theorem i31_6 : ex_ X d 31 6 [v0, v1, v2] [.int x] h Q = if x = 0 then ex_ X d 31 15 [v0, v1, v2] [] h Q else ex_ X d 31 9 [v0, v1, v2] [] h Q := (R_br (show mx_at 31 6 = some (.ifCond .eq 9, 3) by decide +kernel) rfl rfl).trans mx_ite
set_option maxRecDepth 20000 in
theorem i31_9 : ex_ X d 31 9 [v0, v1, v2] [] h Q = ex_ X d 31 12 [v0, v1, v2] [.int 900] h Q := R_sipush (show mx_at 31 9 = some (.sipush 900, 3) by decide +kernel) (by decide)
set_option maxRecDepth 20000 in
theorem i31_12 : ex_ X d 31 12 [v0, v1, v2] [w0] h Q = ex_ X d 31 21 [v0, v1, v2] [w0] h Q := R_to (show mx_at 31 12 = some (.goto 9, 3) by decide +kernel) rfl rfl
set_option maxRecDepth 20000 in
theorem i31_15 : ex_ X d 31 15 [.ref a, v1, v2] [] h Q = ex_ X d 31 16 [.ref a, v1, v2] [.ref a] h Q := ex_nx (show mx_at 31 15 = some (.aload_n 0, 1) by decide +kernel) rfl
set_option maxRecDepth 20000 in
theorem i31_16 : ex_ X d 31 16 [v0, .int x, v2] [w0] h Q = ex_ X d 31 17 [v0, .int x, v2] [.int x, w0] h Q := ex_nx (show mx_at 31 16 = some (.iload_n 1, 1) by decide +kernel) rfl
set_option maxRecDepth 20000 in
theorem i31_17 : ex_ X d 31 17 [v0, v1, .int x] [w0, w1] h Q = ex_ X d 31 18 [v0, v1, .int x] [.int x, w0, w1] h Q := ex_nx (show mx_at 31 17 = some (.iload_n 2, 1) by decide +kernel) rfl
set_option maxRecDepth 20000 in
theorem i31_18_c0 (hc : co_ h a = some 0) : ex_ X (d + 1) 31 18 [v0, v1, v2] [.int x1, .int x0, .ref a] h Q = ev_ X d 1 [.ref a, .int x0, .int x1] h (fun r h' => ex_ X (d + 1) 31 21 [v0, v1, v2] (r.toList ++ []) h' Q) := R_sup (show mx_at 31 18 = some (.invokespecial 13, 3) by decide +kernel) (mx_clk ow31 cc4_13) (Nat.le_of_ble_eq_true rfl) rfl rfl hc (Nat.le_of_ble_eq_true rfl) (Nat.le_of_ble_eq_true rfl) (by rw [ml1]; exact Nat.le_of_ble_eq_true rfl)
set_option maxRecDepth 20000 in
theorem i31_18_c1 (hc : co_ h a = some 1) : ex_ X (d + 1) 31 18 [v0, v1, v2] [.int x1, .int x0, .ref a] h Q = ev_ X d 1 [.ref a, .int x0, .int x1] h (fun r h' => ex_ X (d + 1) 31 21 [v0, v1, v2] (r.toList ++ []) h' Q) := R_sup (show mx_at 31 18 = some (.invokespecial 13, 3) by decide +kernel) (mx_clk ow31 cc4_13) (Nat.le_of_ble_eq_true rfl) rfl rfl hc (Nat.le_of_ble_eq_true rfl) (Nat.le_of_ble_eq_true rfl) (by rw [ml1]; exact Nat.le_of_ble_eq_true rfl)
set_option maxRecDepth 20000 in
theorem i31_18_c2 (hc : co_ h a = some 2) : ex_ X (d + 1) 31 18 [v0, v1, v2] [.int x1, .int x0, .ref a] h Q = ev_ X d 1 [.ref a, .int x0, .int x1] h (fun r h' => ex_ X (d + 1) 31 21 [v0, v1, v2] (r.toList ++ []) h' Q) := R_sup (show mx_at 31 18 = some (.invokespecial 13, 3) by decide +kernel) (mx_clk ow31 cc4_13) (Nat.le_of_ble_eq_true rfl) rfl rfl hc (Nat.le_of_ble_eq_true rfl) (Nat.le_of_ble_eq_true rfl) (by rw [ml1]; exact Nat.le_of_ble_eq_true rfl)
set_option maxRecDepth 20000 in
theorem i31_18_c4 (hc : co_ h a = some 4) : ex_ X (d + 1) 31 18 [v0, v1, v2] [.int x1, .int x0, .ref a] h Q = ev_ X d 1 [.ref a, .int x0, .int x1] h (fun r h' => ex_ X (d + 1) 31 21 [v0, v1, v2] (r.toList ++ []) h' Q) := R_sup (show mx_at 31 18 = some (.invokespecial 13, 3) by decide +kernel) (mx_clk ow31 cc4_13) (Nat.le_of_ble_eq_true rfl) rfl rfl hc (Nat.le_of_ble_eq_true rfl) (Nat.le_of_ble_eq_true rfl) (by rw [ml1]; exact Nat.le_of_ble_eq_true rfl)
set_option maxRecDepth 20000 in
theorem i31_18_c6 (hc : co_ h a = some 6) : ex_ X (d + 1) 31 18 [v0, v1, v2] [.int x1, .int x0, .ref a] h Q = ev_ X d 1 [.ref a, .int x0, .int x1] h (fun r h' => ex_ X (d + 1) 31 21 [v0, v1, v2] (r.toList ++ []) h' Q) := R_sup (show mx_at 31 18 = some (.invokespecial 13, 3) by decide +kernel) (mx_clk ow31 cc4_13) (Nat.le_of_ble_eq_true rfl) rfl rfl hc (Nat.le_of_ble_eq_true rfl) (Nat.le_of_ble_eq_true rfl) (by rw [ml1]; exact Nat.le_of_ble_eq_true rfl)
set_option maxRecDepth 20000 in
theorem i31_18_c8 (hc : co_ h a = some 8) : ex_ X (d + 1) 31 18 [v0, v1, v2] [.int x1, .int x0, .ref a] h Q = ev_ X d 1 [.ref a, .int x0, .int x1] h (fun r h' => ex_ X (d + 1) 31 21 [v0, v1, v2] (r.toList ++ []) h' Q) := R_sup (show mx_at 31 18 = some (.invokespecial 13, 3) by decide +kernel) (mx_clk ow31 cc4_13) (Nat.le_of_ble_eq_true rfl) rfl rfl hc (Nat.le_of_ble_eq_true rfl) (Nat.le_of_ble_eq_true rfl) (by rw [ml1]; exact Nat.le_of_ble_eq_true rfl)
set_option maxRecDepth 20000 in
theorem i31_18_c9 (hc : co_ h a = some 9) : ex_ X (d + 1) 31 18 [v0, v1, v2] [.int x1, .int x0, .ref a] h Q = ev_ X d 1 [.ref a, .int x0, .int x1] h (fun r h' => ex_ X (d + 1) 31 21 [v0, v1, v2] (r.toList ++ []) h' Q) := R_sup (show mx_at 31 18 = some (.invokespecial 13, 3) by decide +kernel) (mx_clk ow31 cc4_13) (Nat.le_of_ble_eq_true rfl) rfl rfl hc (Nat.le_of_ble_eq_true rfl) (Nat.le_of_ble_eq_true rfl) (by rw [ml1]; exact Nat.le_of_ble_eq_true rfl)
set_option maxRecDepth 20000 in
theorem i31_21 : ex_ X d 31 21 [v0, v1, v2] [.int x] h Q = Q (some (.int x)) h := ex_ret (show mx_at 31 21 = some (.ireturn, 1) by decide +kernel) (mx_retI rt31)
theorem i31_e : ev_ X d 31 [.ref a, .int x0, .int x1] h Q = ex_ X d 31 0 [.ref a, .int x0, .int x1] [] h Q := by rw [ev_, ml31]; rfl
-- 32 X4_wipes
set_option maxRecDepth 20000 in
theorem i32_0 : ex_ X d 32 0 [.ref a, v1, v2] [] h Q = ex_ X d 32 1 [.ref a, v1, v2] [.ref a] h Q := ex_nx (show mx_at 32 0 = some (.aload_n 0, 1) by decide +kernel) rfl
set_option maxRecDepth 20000 in
theorem i32_1 : ex_ X d 32 1 [v0, .int x, v2] [w0] h Q = ex_ X d 32 2 [v0, .int x, v2] [.int x, w0] h Q := ex_nx (show mx_at 32 1 = some (.iload_n 1, 1) by decide +kernel) rfl
set_option maxRecDepth 20000 in
theorem i32_2 : ex_ X d 32 2 [v0, v1, .int x] [w0, w1] h Q = ex_ X d 32 3 [v0, v1, .int x] [.int x, w0, w1] h Q := ex_nx (show mx_at 32 2 = some (.iload_n 2, 1) by decide +kernel) rfl
set_option maxRecDepth 20000 in
theorem i32_3_c0 (hc : co_ h a = some 0) : ex_ X (d + 1) 32 3 [v0, v1, v2] [.int x1, .int x0, .ref a] h Q = ev_ X d 1 [.ref a, .int x0, .int x1] h (fun r h' => ex_ X (d + 1) 32 6 [v0, v1, v2] (r.toList ++ []) h' Q) := R_sup (show mx_at 32 3 = some (.invokespecial 13, 3) by decide +kernel) (mx_clk ow32 cc4_13) (Nat.le_of_ble_eq_true rfl) rfl rfl hc (Nat.le_of_ble_eq_true rfl) (Nat.le_of_ble_eq_true rfl) (by rw [ml1]; exact Nat.le_of_ble_eq_true rfl)
set_option maxRecDepth 20000 in
theorem i32_3_c1 (hc : co_ h a = some 1) : ex_ X (d + 1) 32 3 [v0, v1, v2] [.int x1, .int x0, .ref a] h Q = ev_ X d 1 [.ref a, .int x0, .int x1] h (fun r h' => ex_ X (d + 1) 32 6 [v0, v1, v2] (r.toList ++ []) h' Q) := R_sup (show mx_at 32 3 = some (.invokespecial 13, 3) by decide +kernel) (mx_clk ow32 cc4_13) (Nat.le_of_ble_eq_true rfl) rfl rfl hc (Nat.le_of_ble_eq_true rfl) (Nat.le_of_ble_eq_true rfl) (by rw [ml1]; exact Nat.le_of_ble_eq_true rfl)
set_option maxRecDepth 20000 in
theorem i32_3_c2 (hc : co_ h a = some 2) : ex_ X (d + 1) 32 3 [v0, v1, v2] [.int x1, .int x0, .ref a] h Q = ev_ X d 1 [.ref a, .int x0, .int x1] h (fun r h' => ex_ X (d + 1) 32 6 [v0, v1, v2] (r.toList ++ []) h' Q) := R_sup (show mx_at 32 3 = some (.invokespecial 13, 3) by decide +kernel) (mx_clk ow32 cc4_13) (Nat.le_of_ble_eq_true rfl) rfl rfl hc (Nat.le_of_ble_eq_true rfl) (Nat.le_of_ble_eq_true rfl) (by rw [ml1]; exact Nat.le_of_ble_eq_true rfl)
set_option maxRecDepth 20000 in
theorem i32_3_c4 (hc : co_ h a = some 4) : ex_ X (d + 1) 32 3 [v0, v1, v2] [.int x1, .int x0, .ref a] h Q = ev_ X d 1 [.ref a, .int x0, .int x1] h (fun r h' => ex_ X (d + 1) 32 6 [v0, v1, v2] (r.toList ++ []) h' Q) := R_sup (show mx_at 32 3 = some (.invokespecial 13, 3) by decide +kernel) (mx_clk ow32 cc4_13) (Nat.le_of_ble_eq_true rfl) rfl rfl hc (Nat.le_of_ble_eq_true rfl) (Nat.le_of_ble_eq_true rfl) (by rw [ml1]; exact Nat.le_of_ble_eq_true rfl)
set_option maxRecDepth 20000 in
theorem i32_3_c6 (hc : co_ h a = some 6) : ex_ X (d + 1) 32 3 [v0, v1, v2] [.int x1, .int x0, .ref a] h Q = ev_ X d 1 [.ref a, .int x0, .int x1] h (fun r h' => ex_ X (d + 1) 32 6 [v0, v1, v2] (r.toList ++ []) h' Q) := R_sup (show mx_at 32 3 = some (.invokespecial 13, 3) by decide +kernel) (mx_clk ow32 cc4_13) (Nat.le_of_ble_eq_true rfl) rfl rfl hc (Nat.le_of_ble_eq_true rfl) (Nat.le_of_ble_eq_true rfl) (by rw [ml1]; exact Nat.le_of_ble_eq_true rfl)
set_option maxRecDepth 20000 in
theorem i32_3_c8 (hc : co_ h a = some 8) : ex_ X (d + 1) 32 3 [v0, v1, v2] [.int x1, .int x0, .ref a] h Q = ev_ X d 1 [.ref a, .int x0, .int x1] h (fun r h' => ex_ X (d + 1) 32 6 [v0, v1, v2] (r.toList ++ []) h' Q) := R_sup (show mx_at 32 3 = some (.invokespecial 13, 3) by decide +kernel) (mx_clk ow32 cc4_13) (Nat.le_of_ble_eq_true rfl) rfl rfl hc (Nat.le_of_ble_eq_true rfl) (Nat.le_of_ble_eq_true rfl) (by rw [ml1]; exact Nat.le_of_ble_eq_true rfl)
set_option maxRecDepth 20000 in
theorem i32_3_c9 (hc : co_ h a = some 9) : ex_ X (d + 1) 32 3 [v0, v1, v2] [.int x1, .int x0, .ref a] h Q = ev_ X d 1 [.ref a, .int x0, .int x1] h (fun r h' => ex_ X (d + 1) 32 6 [v0, v1, v2] (r.toList ++ []) h' Q) := R_sup (show mx_at 32 3 = some (.invokespecial 13, 3) by decide +kernel) (mx_clk ow32 cc4_13) (Nat.le_of_ble_eq_true rfl) rfl rfl hc (Nat.le_of_ble_eq_true rfl) (Nat.le_of_ble_eq_true rfl) (by rw [ml1]; exact Nat.le_of_ble_eq_true rfl)
set_option maxRecDepth 20000 in
theorem i32_6 : ex_ X d 32 6 [.ref a, v1, v2] [w0] h Q = ex_ X d 32 7 [.ref a, v1, v2] [.ref a, w0] h Q := ex_nx (show mx_at 32 6 = some (.aload_n 0, 1) by decide +kernel) rfl
set_option maxRecDepth 20000 in
theorem i32_7 : ex_ X d 32 7 [v0, v1, v2] [.ref a, w0] h Q = (gk_ h a 3 [(4, 293)] = true ∧ ex_ X d 32 10 [v0, v1, v2] [gv_ h a 3, w0] h Q) := R_getf (show mx_at 32 7 = some (.getfield 17, 3) by decide +kernel) (mx_fdo ow32 fd40017)
set_option maxRecDepth 20000 in
theorem i32_10 : ex_ X d 32 10 [v0, v1, v2] [.int y, .int x] h Q = if y ≤ x then ex_ X d 32 17 [v0, v1, v2] [] h Q else ex_ X d 32 13 [v0, v1, v2] [] h Q := (R_br (show mx_at 32 10 = some (.if_icmp .ge 7, 3) by decide +kernel) rfl rfl).trans mx_ite
set_option maxRecDepth 20000 in
theorem i32_13 : ex_ X d 32 13 [v0, v1, v2] [] h Q = ex_ X d 32 14 [v0, v1, v2] [.int 1] h Q := R_iconst (show mx_at 32 13 = some (.iconst 1, 1) by decide +kernel) (by decide)
set_option maxRecDepth 20000 in
theorem i32_14 : ex_ X d 32 14 [v0, v1, v2] [w0] h Q = ex_ X d 32 18 [v0, v1, v2] [w0] h Q := R_to (show mx_at 32 14 = some (.goto 4, 3) by decide +kernel) rfl rfl
set_option maxRecDepth 20000 in
theorem i32_17 : ex_ X d 32 17 [v0, v1, v2] [] h Q = ex_ X d 32 18 [v0, v1, v2] [.int 0] h Q := R_iconst (show mx_at 32 17 = some (.iconst 0, 1) by decide +kernel) (by decide)
set_option maxRecDepth 20000 in
theorem i32_18 (hx : x = 0 ∨ x = 1) : ex_ X d 32 18 [v0, v1, v2] [.int x] h Q = Q (some (.int x)) h := ex_ret (show mx_at 32 18 = some (.ireturn, 1) by decide +kernel) (mx_retZ hx rt32)
theorem i32_e : ev_ X d 32 [.ref a, .int x0, .int x1] h Q = ex_ X d 32 0 [.ref a, .int x0, .int x1] [] h Q := by rw [ev_, ml32]; rfl
-- 33 X4_sells
set_option maxRecDepth 20000 in
theorem i33_0 : ex_ X d 33 0 [v0, v1, .ref a] [] h Q = ex_ X d 33 1 [v0, v1, .ref a] [.ref a] h Q := ex_nx (show mx_at 33 0 = some (.aload_n 2, 1) by decide +kernel) rfl
set_option maxRecDepth 20000 in
theorem i33_1 : ex_ X d 33 1 [v0, v1, v2] [w0] h Q = ex_ X d 33 3 [v0, v1, v2] [.int 70, w0] h Q := R_bipush (show mx_at 33 1 = some (.bipush 70, 2) by decide +kernel) (by decide)
set_option maxRecDepth 20000 in
theorem i33_3 (hc : co_ h a = some 5) : ex_ X (d + 1) 33 3 [v0, v1, v2] [.int x0, .ref a] h Q = ev_ X d 36 [.ref a, .int x0] h (fun r h' => ex_ X (d + 1) 33 6 [v0, v1, v2] (r.toList ++ []) h' Q) := R_vir (show mx_at 33 3 = some (.invokevirtual 21, 3) by decide +kernel) (mx_clk ow33 cc4_21) (Nat.le_of_ble_eq_true rfl) rfl rfl hc rfl (Nat.le_of_ble_eq_true rfl) (Nat.le_of_ble_eq_true rfl) (by rw [ml36]; exact Nat.le_of_ble_eq_true rfl)
set_option maxRecDepth 20000 in
theorem i33_6 : ex_ X d 33 6 [v0, v1, v2] [.int x] h Q = ex_ X d 33 7 [v0, v1, v2] [] h Q := ex_nx (show mx_at 33 6 = some (.pop, 1) by decide +kernel) rfl
set_option maxRecDepth 20000 in
theorem i33_7 : ex_ X d 33 7 [.ref a, v1, v2] [] h Q = ex_ X d 33 8 [.ref a, v1, v2] [.ref a] h Q := ex_nx (show mx_at 33 7 = some (.aload_n 0, 1) by decide +kernel) rfl
set_option maxRecDepth 20000 in
theorem i33_8 : ex_ X d 33 8 [v0, .int x, v2] [w0] h Q = ex_ X d 33 9 [v0, .int x, v2] [.int x, w0] h Q := ex_nx (show mx_at 33 8 = some (.iload_n 1, 1) by decide +kernel) rfl
set_option maxRecDepth 20000 in
theorem i33_9 : ex_ X d 33 9 [v0, v1, .ref a] [w0, w1] h Q = ex_ X d 33 10 [v0, v1, .ref a] [.ref a, w0, w1] h Q := ex_nx (show mx_at 33 9 = some (.aload_n 2, 1) by decide +kernel) rfl
set_option maxRecDepth 20000 in
theorem i33_10_c0 (hc : co_ h a = some 0) : ex_ X (d + 1) 33 10 [v0, v1, v2] [.ref a1, .int x0, .ref a] h Q = ev_ X d 2 [.ref a, .int x0, .ref a1] h (fun r h' => ex_ X (d + 1) 33 13 [v0, v1, v2] (r.toList ++ []) h' Q) := R_sup (show mx_at 33 10 = some (.invokespecial 27, 3) by decide +kernel) (mx_clk ow33 cc4_27) (Nat.le_of_ble_eq_true rfl) rfl rfl hc (Nat.le_of_ble_eq_true rfl) (Nat.le_of_ble_eq_true rfl) (by rw [ml2]; exact Nat.le_of_ble_eq_true rfl)
set_option maxRecDepth 20000 in
theorem i33_10_c1 (hc : co_ h a = some 1) : ex_ X (d + 1) 33 10 [v0, v1, v2] [.ref a1, .int x0, .ref a] h Q = ev_ X d 2 [.ref a, .int x0, .ref a1] h (fun r h' => ex_ X (d + 1) 33 13 [v0, v1, v2] (r.toList ++ []) h' Q) := R_sup (show mx_at 33 10 = some (.invokespecial 27, 3) by decide +kernel) (mx_clk ow33 cc4_27) (Nat.le_of_ble_eq_true rfl) rfl rfl hc (Nat.le_of_ble_eq_true rfl) (Nat.le_of_ble_eq_true rfl) (by rw [ml2]; exact Nat.le_of_ble_eq_true rfl)
set_option maxRecDepth 20000 in
theorem i33_10_c2 (hc : co_ h a = some 2) : ex_ X (d + 1) 33 10 [v0, v1, v2] [.ref a1, .int x0, .ref a] h Q = ev_ X d 2 [.ref a, .int x0, .ref a1] h (fun r h' => ex_ X (d + 1) 33 13 [v0, v1, v2] (r.toList ++ []) h' Q) := R_sup (show mx_at 33 10 = some (.invokespecial 27, 3) by decide +kernel) (mx_clk ow33 cc4_27) (Nat.le_of_ble_eq_true rfl) rfl rfl hc (Nat.le_of_ble_eq_true rfl) (Nat.le_of_ble_eq_true rfl) (by rw [ml2]; exact Nat.le_of_ble_eq_true rfl)
set_option maxRecDepth 20000 in
theorem i33_10_c4 (hc : co_ h a = some 4) : ex_ X (d + 1) 33 10 [v0, v1, v2] [.ref a1, .int x0, .ref a] h Q = ev_ X d 2 [.ref a, .int x0, .ref a1] h (fun r h' => ex_ X (d + 1) 33 13 [v0, v1, v2] (r.toList ++ []) h' Q) := R_sup (show mx_at 33 10 = some (.invokespecial 27, 3) by decide +kernel) (mx_clk ow33 cc4_27) (Nat.le_of_ble_eq_true rfl) rfl rfl hc (Nat.le_of_ble_eq_true rfl) (Nat.le_of_ble_eq_true rfl) (by rw [ml2]; exact Nat.le_of_ble_eq_true rfl)
set_option maxRecDepth 20000 in
theorem i33_10_c6 (hc : co_ h a = some 6) : ex_ X (d + 1) 33 10 [v0, v1, v2] [.ref a1, .int x0, .ref a] h Q = ev_ X d 2 [.ref a, .int x0, .ref a1] h (fun r h' => ex_ X (d + 1) 33 13 [v0, v1, v2] (r.toList ++ []) h' Q) := R_sup (show mx_at 33 10 = some (.invokespecial 27, 3) by decide +kernel) (mx_clk ow33 cc4_27) (Nat.le_of_ble_eq_true rfl) rfl rfl hc (Nat.le_of_ble_eq_true rfl) (Nat.le_of_ble_eq_true rfl) (by rw [ml2]; exact Nat.le_of_ble_eq_true rfl)
set_option maxRecDepth 20000 in
theorem i33_10_c8 (hc : co_ h a = some 8) : ex_ X (d + 1) 33 10 [v0, v1, v2] [.ref a1, .int x0, .ref a] h Q = ev_ X d 2 [.ref a, .int x0, .ref a1] h (fun r h' => ex_ X (d + 1) 33 13 [v0, v1, v2] (r.toList ++ []) h' Q) := R_sup (show mx_at 33 10 = some (.invokespecial 27, 3) by decide +kernel) (mx_clk ow33 cc4_27) (Nat.le_of_ble_eq_true rfl) rfl rfl hc (Nat.le_of_ble_eq_true rfl) (Nat.le_of_ble_eq_true rfl) (by rw [ml2]; exact Nat.le_of_ble_eq_true rfl)
set_option maxRecDepth 20000 in
theorem i33_10_c9 (hc : co_ h a = some 9) : ex_ X (d + 1) 33 10 [v0, v1, v2] [.ref a1, .int x0, .ref a] h Q = ev_ X d 2 [.ref a, .int x0, .ref a1] h (fun r h' => ex_ X (d + 1) 33 13 [v0, v1, v2] (r.toList ++ []) h' Q) := R_sup (show mx_at 33 10 = some (.invokespecial 27, 3) by decide +kernel) (mx_clk ow33 cc4_27) (Nat.le_of_ble_eq_true rfl) rfl rfl hc (Nat.le_of_ble_eq_true rfl) (Nat.le_of_ble_eq_true rfl) (by rw [ml2]; exact Nat.le_of_ble_eq_true rfl)
set_option maxRecDepth 20000 in
theorem i33_13 : ex_ X d 33 13 [.ref a, v1, v2] [w0] h Q = ex_ X d 33 14 [.ref a, v1, v2] [.ref a, w0] h Q := ex_nx (show mx_at 33 13 = some (.aload_n 0, 1) by decide +kernel) rfl
set_option maxRecDepth 20000 in
theorem i33_14 : ex_ X d 33 14 [v0, v1, v2] [.ref a, w0] h Q = (gk_ h a 2 [(4, 286)] = true ∧ ex_ X d 33 17 [v0, v1, v2] [gv_ h a 2, w0] h Q) := R_getf (show mx_at 33 14 = some (.getfield 31, 3) by decide +kernel) (mx_fdo ow33 fd40031)
set_option maxRecDepth 20000 in
theorem i33_17 : ex_ X d 33 17 [v0, v1, v2] [.int y, .int x] h Q = ex_ X d 33 18 [v0, v1, v2] [.int (x + y)] h Q := ex_nx (show mx_at 33 17 = some (.iadd, 1) by decide +kernel) rfl
set_option maxRecDepth 20000 in
theorem i33_18 : ex_ X d 33 18 [v0, v1, v2] [.int x] h Q = Q (some (.int x)) h := ex_ret (show mx_at 33 18 = some (.ireturn, 1) by decide +kernel) (mx_retI rt33)
theorem i33_e : ev_ X d 33 [.ref a, .int x0, .ref a1] h Q = ex_ X d 33 0 [.ref a, .int x0, .ref a1] [] h Q := by rw [ev_, ml33]; rfl
-- 34 X4_tells
set_option maxRecDepth 20000 in
theorem i34_0 : ex_ X d 34 0 [v0, v1, .ref a] [] h Q = ex_ X d 34 1 [v0, v1, .ref a] [.ref a] h Q := ex_nx (show mx_at 34 0 = some (.aload_n 2, 1) by decide +kernel) rfl
set_option maxRecDepth 20000 in
theorem i34_1 : ex_ X d 34 1 [v0, v1, v2] [w0] h Q = ex_ X d 34 3 [v0, v1, v2] [.int 71, w0] h Q := R_bipush (show mx_at 34 1 = some (.bipush 71, 2) by decide +kernel) (by decide)
set_option maxRecDepth 20000 in
theorem i34_3 (hc : co_ h a = some 5) : ex_ X (d + 1) 34 3 [v0, v1, v2] [.int x0, .ref a] h Q = ev_ X d 36 [.ref a, .int x0] h (fun r h' => ex_ X (d + 1) 34 6 [v0, v1, v2] (r.toList ++ []) h' Q) := R_vir (show mx_at 34 3 = some (.invokevirtual 21, 3) by decide +kernel) (mx_clk ow34 cc4_21) (Nat.le_of_ble_eq_true rfl) rfl rfl hc rfl (Nat.le_of_ble_eq_true rfl) (Nat.le_of_ble_eq_true rfl) (by rw [ml36]; exact Nat.le_of_ble_eq_true rfl)
set_option maxRecDepth 20000 in
theorem i34_6 : ex_ X d 34 6 [v0, v1, v2] [.int x] h Q = ex_ X d 34 7 [v0, v1, v2] [] h Q := ex_nx (show mx_at 34 6 = some (.pop, 1) by decide +kernel) rfl
set_option maxRecDepth 20000 in
theorem i34_7 : ex_ X d 34 7 [.ref a, v1, v2] [] h Q = ex_ X d 34 8 [.ref a, v1, v2] [.ref a] h Q := ex_nx (show mx_at 34 7 = some (.aload_n 0, 1) by decide +kernel) rfl
set_option maxRecDepth 20000 in
theorem i34_8 : ex_ X d 34 8 [v0, .int x, v2] [w0] h Q = ex_ X d 34 9 [v0, .int x, v2] [.int x, w0] h Q := ex_nx (show mx_at 34 8 = some (.iload_n 1, 1) by decide +kernel) rfl
set_option maxRecDepth 20000 in
theorem i34_9 : ex_ X d 34 9 [v0, v1, .ref a] [w0, w1] h Q = ex_ X d 34 10 [v0, v1, .ref a] [.ref a, w0, w1] h Q := ex_nx (show mx_at 34 9 = some (.aload_n 2, 1) by decide +kernel) rfl
set_option maxRecDepth 20000 in
theorem i34_10 (hc : co_ h a = some 4) : ex_ X (d + 1) 34 10 [v0, v1, v2] [.ref a1, .int x0, .ref a] h Q = ev_ X d 33 [.ref a, .int x0, .ref a1] h (fun r h' => ex_ X (d + 1) 34 13 [v0, v1, v2] (r.toList ++ []) h' Q) := R_vir (show mx_at 34 10 = some (.invokevirtual 34, 3) by decide +kernel) (mx_clk ow34 cc4_34) (Nat.le_of_ble_eq_true rfl) rfl rfl hc rfl (Nat.le_of_ble_eq_true rfl) (Nat.le_of_ble_eq_true rfl) (by rw [ml33]; exact Nat.le_of_ble_eq_true rfl)
set_option maxRecDepth 20000 in
theorem i34_13 : ex_ X d 34 13 [.ref a, v1, v2] [w0] h Q = ex_ X d 34 14 [.ref a, v1, v2] [.ref a, w0] h Q := ex_nx (show mx_at 34 13 = some (.aload_n 0, 1) by decide +kernel) rfl
set_option maxRecDepth 20000 in
theorem i34_14 : ex_ X d 34 14 [v0, .int x, v2] [w0, w1] h Q = ex_ X d 34 15 [v0, .int x, v2] [.int x, w0, w1] h Q := ex_nx (show mx_at 34 14 = some (.iload_n 1, 1) by decide +kernel) rfl
set_option maxRecDepth 20000 in
theorem i34_15 : ex_ X d 34 15 [v0, v1, .ref a] [w0, w1, w2] h Q = ex_ X d 34 16 [v0, v1, .ref a] [.ref a, w0, w1, w2] h Q := ex_nx (show mx_at 34 15 = some (.aload_n 2, 1) by decide +kernel) rfl
set_option maxRecDepth 20000 in
theorem i34_16_c0 (hc : co_ h a = some 0) : ex_ X (d + 1) 34 16 [v0, v1, v2] [.ref a1, .int x0, .ref a, w0] h Q = ev_ X d 46 [.ref a, .int x0, .ref a1] h (fun r h' => ex_ X (d + 1) 34 19 [v0, v1, v2] (r.toList ++ [w0]) h' Q) := R_sup (show mx_at 34 16 = some (.invokespecial 35, 3) by decide +kernel) (mx_clk ow34 cc4_35) (Nat.le_of_ble_eq_true rfl) rfl rfl hc (Nat.le_of_ble_eq_true rfl) (Nat.le_of_ble_eq_true rfl) (by rw [ml46]; exact Nat.le_of_ble_eq_true rfl)
set_option maxRecDepth 20000 in
theorem i34_16_c1 (hc : co_ h a = some 1) : ex_ X (d + 1) 34 16 [v0, v1, v2] [.ref a1, .int x0, .ref a, w0] h Q = ev_ X d 46 [.ref a, .int x0, .ref a1] h (fun r h' => ex_ X (d + 1) 34 19 [v0, v1, v2] (r.toList ++ [w0]) h' Q) := R_sup (show mx_at 34 16 = some (.invokespecial 35, 3) by decide +kernel) (mx_clk ow34 cc4_35) (Nat.le_of_ble_eq_true rfl) rfl rfl hc (Nat.le_of_ble_eq_true rfl) (Nat.le_of_ble_eq_true rfl) (by rw [ml46]; exact Nat.le_of_ble_eq_true rfl)
set_option maxRecDepth 20000 in
theorem i34_16_c2 (hc : co_ h a = some 2) : ex_ X (d + 1) 34 16 [v0, v1, v2] [.ref a1, .int x0, .ref a, w0] h Q = ev_ X d 46 [.ref a, .int x0, .ref a1] h (fun r h' => ex_ X (d + 1) 34 19 [v0, v1, v2] (r.toList ++ [w0]) h' Q) := R_sup (show mx_at 34 16 = some (.invokespecial 35, 3) by decide +kernel) (mx_clk ow34 cc4_35) (Nat.le_of_ble_eq_true rfl) rfl rfl hc (Nat.le_of_ble_eq_true rfl) (Nat.le_of_ble_eq_true rfl) (by rw [ml46]; exact Nat.le_of_ble_eq_true rfl)
set_option maxRecDepth 20000 in
theorem i34_16_c4 (hc : co_ h a = some 4) : ex_ X (d + 1) 34 16 [v0, v1, v2] [.ref a1, .int x0, .ref a, w0] h Q = ev_ X d 46 [.ref a, .int x0, .ref a1] h (fun r h' => ex_ X (d + 1) 34 19 [v0, v1, v2] (r.toList ++ [w0]) h' Q) := R_sup (show mx_at 34 16 = some (.invokespecial 35, 3) by decide +kernel) (mx_clk ow34 cc4_35) (Nat.le_of_ble_eq_true rfl) rfl rfl hc (Nat.le_of_ble_eq_true rfl) (Nat.le_of_ble_eq_true rfl) (by rw [ml46]; exact Nat.le_of_ble_eq_true rfl)
set_option maxRecDepth 20000 in
theorem i34_16_c6 (hc : co_ h a = some 6) : ex_ X (d + 1) 34 16 [v0, v1, v2] [.ref a1, .int x0, .ref a, w0] h Q = ev_ X d 46 [.ref a, .int x0, .ref a1] h (fun r h' => ex_ X (d + 1) 34 19 [v0, v1, v2] (r.toList ++ [w0]) h' Q) := R_sup (show mx_at 34 16 = some (.invokespecial 35, 3) by decide +kernel) (mx_clk ow34 cc4_35) (Nat.le_of_ble_eq_true rfl) rfl rfl hc (Nat.le_of_ble_eq_true rfl) (Nat.le_of_ble_eq_true rfl) (by rw [ml46]; exact Nat.le_of_ble_eq_true rfl)
set_option maxRecDepth 20000 in
theorem i34_16_c8 (hc : co_ h a = some 8) : ex_ X (d + 1) 34 16 [v0, v1, v2] [.ref a1, .int x0, .ref a, w0] h Q = ev_ X d 46 [.ref a, .int x0, .ref a1] h (fun r h' => ex_ X (d + 1) 34 19 [v0, v1, v2] (r.toList ++ [w0]) h' Q) := R_sup (show mx_at 34 16 = some (.invokespecial 35, 3) by decide +kernel) (mx_clk ow34 cc4_35) (Nat.le_of_ble_eq_true rfl) rfl rfl hc (Nat.le_of_ble_eq_true rfl) (Nat.le_of_ble_eq_true rfl) (by rw [ml46]; exact Nat.le_of_ble_eq_true rfl)
set_option maxRecDepth 20000 in
theorem i34_16_c9 (hc : co_ h a = some 9) : ex_ X (d + 1) 34 16 [v0, v1, v2] [.ref a1, .int x0, .ref a, w0] h Q = ev_ X d 46 [.ref a, .int x0, .ref a1] h (fun r h' => ex_ X (d + 1) 34 19 [v0, v1, v2] (r.toList ++ [w0]) h' Q) := R_sup (show mx_at 34 16 = some (.invokespecial 35, 3) by decide +kernel) (mx_clk ow34 cc4_35) (Nat.le_of_ble_eq_true rfl) rfl rfl hc (Nat.le_of_ble_eq_true rfl) (Nat.le_of_ble_eq_true rfl) (by rw [ml46]; exact Nat.le_of_ble_eq_true rfl)
set_option maxRecDepth 20000 in
theorem i34_19 : ex_ X d 34 19 [v0, v1, v2] [.int y, .int x] h Q = ex_ X d 34 20 [v0, v1, v2] [.int (x - y)] h Q := ex_nx (show mx_at 34 19 = some (.isub, 1) by decide +kernel) rfl
set_option maxRecDepth 20000 in
theorem i34_20 : ex_ X d 34 20 [v0, v1, v2] [.int x] h Q = Q (some (.int x)) h := ex_ret (show mx_at 34 20 = some (.ireturn, 1) by decide +kernel) (mx_retI rt34)
theorem i34_e : ev_ X d 34 [.ref a, .int x0, .ref a1] h Q = ex_ X d 34 0 [.ref a, .int x0, .ref a1] [] h Q := by rw [ev_, ml34]; rfl
-- 35 X5_init
set_option maxRecDepth 20000 in
theorem i35_0 : ex_ X d 35 0 [.ref a, v1] [] h Q = ex_ X d 35 1 [.ref a, v1] [.ref a] h Q := ex_nx (show mx_at 35 0 = some (.aload_n 0, 1) by decide +kernel) rfl
set_option maxRecDepth 20000 in
theorem i35_1 : ex_ X (d + 1) 35 1 [v0, v1] [.ref a] h Q = ex_ X (d + 1) 35 4 [v0, v1] [] h Q := R_obj (show mx_at 35 1 = some (.invokespecial 1, 3) by decide +kernel) (mx_clk ow35 cc5_1) (Nat.le_of_ble_eq_true rfl)
set_option maxRecDepth 20000 in
theorem i35_4 : ex_ X d 35 4 [.ref a, v1] [] h Q = ex_ X d 35 5 [.ref a, v1] [.ref a] h Q := ex_nx (show mx_at 35 4 = some (.aload_n 0, 1) by decide +kernel) rfl
set_option maxRecDepth 20000 in
theorem i35_5 : ex_ X d 35 5 [v0, .int x] [w0] h Q = ex_ X d 35 6 [v0, .int x] [.int x, w0] h Q := ex_nx (show mx_at 35 5 = some (.iload_n 1, 1) by decide +kernel) rfl
set_option maxRecDepth 20000 in
theorem i35_6 (hn : 0 ≤ x ∧ x.toNatClampNeg ≤ 1000) : ex_ X d 35 6 [v0, v1] [.int x, w0] h Q = ex_ X d 35 8 [v0, v1] [.ref h.length, w0] (h ++ [.inl (0, x.toNatClampNeg, .inl (fun _ => 0))]) Q := R_newa (kd := 0) (w := 2) (i := .newarray .int) (show mx_at 35 6 = some (.newarray .int, 2) by decide +kernel) (fun _ => rfl) hn
set_option maxRecDepth 20000 in
theorem i35_8 : ex_ X d 35 8 [v0, v1] [w, .ref a] h Q = (pk_ 35 h a 0 w [(5, 0)] = true ∧ ex_ X d 35 11 [v0, v1] [] (pf_ h a 0 w) Q) := R_putf (show mx_at 35 8 = some (.putfield 7, 3) by decide +kernel) (mx_fdo ow35 fd50007)
set_option maxRecDepth 20000 in
theorem i35_11 : ex_ X d 35 11 [v0, v1] [] h Q = Q none h := ex_ret (show mx_at 35 11 = some (.return_, 1) by decide +kernel) (mx_retV rt35)
theorem i35_e : ev_ X d 35 [.ref a, .int x0] h Q = ex_ X d 35 0 [.ref a, .int x0] [] h Q := by rw [ev_, ml35]; rfl
-- 36 X5_add
set_option maxRecDepth 20000 in
theorem i36_0 : ex_ X d 36 0 [.ref a, v1] [] h Q = ex_ X d 36 1 [.ref a, v1] [.ref a] h Q := ex_nx (show mx_at 36 0 = some (.aload_n 0, 1) by decide +kernel) rfl
set_option maxRecDepth 20000 in
theorem i36_1 : ex_ X d 36 1 [v0, v1] [.ref a] h Q = (gk_ h a 1 [(5, 0)] = true ∧ ex_ X d 36 4 [v0, v1] [gv_ h a 1] h Q) := R_getf (show mx_at 36 1 = some (.getfield 13, 3) by decide +kernel) (mx_fdo ow36 fd50013)
set_option maxRecDepth 20000 in
theorem i36_4 : ex_ X d 36 4 [.ref a, v1] [w0] h Q = ex_ X d 36 5 [.ref a, v1] [.ref a, w0] h Q := ex_nx (show mx_at 36 4 = some (.aload_n 0, 1) by decide +kernel) rfl
set_option maxRecDepth 20000 in
theorem i36_5 : ex_ X d 36 5 [v0, v1] [.ref a, w0] h Q = (gk_ h a 0 [(5, 0)] = true ∧ ex_ X d 36 8 [v0, v1] [gv_ h a 0, w0] h Q) := R_getf (show mx_at 36 5 = some (.getfield 7, 3) by decide +kernel) (mx_fdo ow36 fd50007)
set_option maxRecDepth 20000 in
theorem i36_8 (ha : al_ h a = some b) : ex_ X d 36 8 [v0, v1] [.ref a, w0] h Q = ex_ X d 36 9 [v0, v1] [.int (Int32.ofNat b), w0] h Q := R_alen (show mx_at 36 8 = some (.arraylength, 1) by decide +kernel) ha
set_option maxRecDepth 20000 in
theorem i36_9 : ex_ X d 36 9 [v0, v1] [.int y, .int x] h Q = if x < y then ex_ X d 36 14 [v0, v1] [] h Q else ex_ X d 36 12 [v0, v1] [] h Q := (R_br (show mx_at 36 9 = some (.if_icmp .lt 5, 3) by decide +kernel) rfl rfl).trans mx_ite
set_option maxRecDepth 20000 in
theorem i36_12 : ex_ X d 36 12 [v0, v1] [] h Q = ex_ X d 36 13 [v0, v1] [.int 0] h Q := R_iconst (show mx_at 36 12 = some (.iconst 0, 1) by decide +kernel) (by decide)
set_option maxRecDepth 20000 in
theorem i36_13 (hx : x = 0 ∨ x = 1) : ex_ X d 36 13 [v0, v1] [.int x] h Q = Q (some (.int x)) h := ex_ret (show mx_at 36 13 = some (.ireturn, 1) by decide +kernel) (mx_retZ hx rt36)
set_option maxRecDepth 20000 in
theorem i36_14 : ex_ X d 36 14 [.ref a, v1] [] h Q = ex_ X d 36 15 [.ref a, v1] [.ref a] h Q := ex_nx (show mx_at 36 14 = some (.aload_n 0, 1) by decide +kernel) rfl
set_option maxRecDepth 20000 in
theorem i36_15 : ex_ X d 36 15 [v0, v1] [.ref a] h Q = (gk_ h a 0 [(5, 0)] = true ∧ ex_ X d 36 18 [v0, v1] [gv_ h a 0] h Q) := R_getf (show mx_at 36 15 = some (.getfield 7, 3) by decide +kernel) (mx_fdo ow36 fd50007)
set_option maxRecDepth 20000 in
theorem i36_18 : ex_ X d 36 18 [.ref a, v1] [w0] h Q = ex_ X d 36 19 [.ref a, v1] [.ref a, w0] h Q := ex_nx (show mx_at 36 18 = some (.aload_n 0, 1) by decide +kernel) rfl
set_option maxRecDepth 20000 in
theorem i36_19 : ex_ X d 36 19 [v0, v1] [.ref a, w0] h Q = (gk_ h a 1 [(5, 0)] = true ∧ ex_ X d 36 22 [v0, v1] [gv_ h a 1, w0] h Q) := R_getf (show mx_at 36 19 = some (.getfield 13, 3) by decide +kernel) (mx_fdo ow36 fd50013)
set_option maxRecDepth 20000 in
theorem i36_22 : ex_ X d 36 22 [v0, .int x] [w0, w1] h Q = ex_ X d 36 23 [v0, .int x] [.int x, w0, w1] h Q := ex_nx (show mx_at 36 22 = some (.iload_n 1, 1) by decide +kernel) rfl
set_option maxRecDepth 20000 in
theorem i36_23 : ex_ X d 36 23 [v0, v1] [.int x, .int i, .ref a] h Q = (ik_ h a i = true ∧ ex_ X d 36 24 [v0, v1] [] (is_ h a i x) Q) := R_iast (show mx_at 36 23 = some (.iastore, 1) by decide +kernel)
set_option maxRecDepth 20000 in
theorem i36_24 : ex_ X d 36 24 [.ref a, v1] [] h Q = ex_ X d 36 25 [.ref a, v1] [.ref a] h Q := ex_nx (show mx_at 36 24 = some (.aload_n 0, 1) by decide +kernel) rfl
set_option maxRecDepth 20000 in
theorem i36_25 : ex_ X d 36 25 [v0, v1] [.ref a] h Q = ex_ X d 36 26 [v0, v1] [.ref a, .ref a] h Q := ex_nx (show mx_at 36 25 = some (.dup, 1) by decide +kernel) rfl
set_option maxRecDepth 20000 in
theorem i36_26 : ex_ X d 36 26 [v0, v1] [.ref a, w0] h Q = (gk_ h a 1 [(5, 0)] = true ∧ ex_ X d 36 29 [v0, v1] [gv_ h a 1, w0] h Q) := R_getf (show mx_at 36 26 = some (.getfield 13, 3) by decide +kernel) (mx_fdo ow36 fd50013)
set_option maxRecDepth 20000 in
theorem i36_29 : ex_ X d 36 29 [v0, v1] [w0, w1] h Q = ex_ X d 36 30 [v0, v1] [.int 1, w0, w1] h Q := R_iconst (show mx_at 36 29 = some (.iconst 1, 1) by decide +kernel) (by decide)
set_option maxRecDepth 20000 in
theorem i36_30 : ex_ X d 36 30 [v0, v1] [.int y, .int x, w0] h Q = ex_ X d 36 31 [v0, v1] [.int (x + y), w0] h Q := ex_nx (show mx_at 36 30 = some (.iadd, 1) by decide +kernel) rfl
set_option maxRecDepth 20000 in
theorem i36_31 : ex_ X d 36 31 [v0, v1] [w, .ref a] h Q = (pk_ 36 h a 1 w [(5, 0)] = true ∧ ex_ X d 36 34 [v0, v1] [] (pf_ h a 1 w) Q) := R_putf (show mx_at 36 31 = some (.putfield 13, 3) by decide +kernel) (mx_fdo ow36 fd50013)
set_option maxRecDepth 20000 in
theorem i36_34 : ex_ X d 36 34 [v0, v1] [] h Q = ex_ X d 36 35 [v0, v1] [.int 1] h Q := R_iconst (show mx_at 36 34 = some (.iconst 1, 1) by decide +kernel) (by decide)
set_option maxRecDepth 20000 in
theorem i36_35 (hx : x = 0 ∨ x = 1) : ex_ X d 36 35 [v0, v1] [.int x] h Q = Q (some (.int x)) h := ex_ret (show mx_at 36 35 = some (.ireturn, 1) by decide +kernel) (mx_retZ hx rt36)
theorem i36_e : ev_ X d 36 [.ref a, .int x0] h Q = ex_ X d 36 0 [.ref a, .int x0] [] h Q := by rw [ev_, ml36]; rfl
-- 37 X5_clear
set_option maxRecDepth 20000 in
theorem i37_0 : ex_ X d 37 0 [.ref a] [] h Q = ex_ X d 37 1 [.ref a] [.ref a] h Q := ex_nx (show mx_at 37 0 = some (.aload_n 0, 1) by decide +kernel) rfl
set_option maxRecDepth 20000 in
theorem i37_1 : ex_ X d 37 1 [v0] [w0] h Q = ex_ X d 37 2 [v0] [.int 0, w0] h Q := R_iconst (show mx_at 37 1 = some (.iconst 0, 1) by decide +kernel) (by decide)
set_option maxRecDepth 20000 in
theorem i37_2 : ex_ X d 37 2 [v0] [w, .ref a] h Q = (pk_ 37 h a 1 w [(5, 0)] = true ∧ ex_ X d 37 5 [v0] [] (pf_ h a 1 w) Q) := R_putf (show mx_at 37 2 = some (.putfield 13, 3) by decide +kernel) (mx_fdo ow37 fd50013)
set_option maxRecDepth 20000 in
theorem i37_5 : ex_ X d 37 5 [v0] [] h Q = Q none h := ex_ret (show mx_at 37 5 = some (.return_, 1) by decide +kernel) (mx_retV rt37)
theorem i37_e : ev_ X d 37 [.ref a] h Q = ex_ X d 37 0 [.ref a] [] h Q := by rw [ev_, ml37]; rfl
-- 38 X5_firstUnlike
set_option maxRecDepth 20000 in
theorem i38_0 : ex_ X d 38 0 [.ref a, v1, v2, v3, v4] [] h Q = ex_ X d 38 1 [.ref a, v1, v2, v3, v4] [.ref a] h Q := ex_nx (show mx_at 38 0 = some (.aload_n 0, 1) by decide +kernel) rfl
set_option maxRecDepth 20000 in
theorem i38_1 : ex_ X d 38 1 [v0, v1, v2, v3, v4] [.ref a] h Q = (gk_ h a 1 [(5, 0)] = true ∧ ex_ X d 38 4 [v0, v1, v2, v3, v4] [gv_ h a 1] h Q) := R_getf (show mx_at 38 1 = some (.getfield 13, 3) by decide +kernel) (mx_fdo ow38 fd50013)
set_option maxRecDepth 20000 in
theorem i38_4 : ex_ X d 38 4 [v0, v1, .int x, v3, v4] [w0] h Q = ex_ X d 38 5 [v0, v1, .int x, v3, v4] [.int x, w0] h Q := ex_nx (show mx_at 38 4 = some (.iload_n 2, 1) by decide +kernel) rfl
set_option maxRecDepth 20000 in
theorem i38_5 : ex_ X d 38 5 [v0, .ref a, v2, v3, v4] [w0, w1] h Q = ex_ X d 38 6 [v0, .ref a, v2, v3, v4] [.ref a, w0, w1] h Q := ex_nx (show mx_at 38 5 = some (.aload_n 1, 1) by decide +kernel) rfl
set_option maxRecDepth 20000 in
theorem i38_6 (ha : al_ h a = some b) : ex_ X d 38 6 [v0, v1, v2, v3, v4] [.ref a, w0, w1] h Q = ex_ X d 38 7 [v0, v1, v2, v3, v4] [.int (Int32.ofNat b), w0, w1] h Q := R_alen (show mx_at 38 6 = some (.arraylength, 1) by decide +kernel) ha
set_option maxRecDepth 20000 in
theorem i38_7 : ex_ X (d + 1) 38 7 [v0, v1, v2, v3, v4] [.int y, .int x, w0] h Q = ex_ X (d + 1) 38 10 [v0, v1, v2, v3, v4] [.int (if y < x then y else x), w0] h Q := R_min (show mx_at 38 7 = some (.invokestatic 17, 3) by decide +kernel) (mx_clk ow38 cc5_17) (Nat.le_of_ble_eq_true rfl)
set_option maxRecDepth 20000 in
theorem i38_10 : ex_ X (d + 1) 38 10 [v0, v1, v2, v3, v4] [.int y, .int x] h Q = ex_ X (d + 1) 38 13 [v0, v1, v2, v3, v4] [.int (if y < x then y else x)] h Q := R_min (show mx_at 38 10 = some (.invokestatic 17, 3) by decide +kernel) (mx_clk ow38 cc5_17) (Nat.le_of_ble_eq_true rfl)
set_option maxRecDepth 20000 in
theorem i38_13 : ex_ X d 38 13 [v0, v1, v2, v3, v4] [.int x] h Q = (mx_nl v2 = true ∧ ex_ X d 38 14 [v0, v1, v2, .int x, v4] [] h Q) := mx_t1 (R_st (ok := mx_isI) (n := 3) (w := 1) (show mx_at 38 13 = some (.istore_n 3, 1) by decide +kernel) (fun _ _ => rfl) (Nat.le_of_ble_eq_true rfl)) rfl
set_option maxRecDepth 20000 in
theorem i38_14 : ex_ X d 38 14 [v0, v1, v2, v3, v4] [] h Q = ex_ X d 38 15 [v0, v1, v2, v3, v4] [.int 0] h Q := R_iconst (show mx_at 38 14 = some (.iconst 0, 1) by decide +kernel) (by decide)
set_option maxRecDepth 20000 in
theorem i38_15 : ex_ X d 38 15 [v0, v1, v2, v3, v4] [.int x] h Q = (mx_nl v3 = true ∧ ex_ X d 38 17 [v0, v1, v2, v3, .int x] [] h Q) := mx_t1 (R_st (ok := mx_isI) (n := 4) (w := 2) (show mx_at 38 15 = some (.istore 4, 2) by decide +kernel) (fun _ _ => rfl) (Nat.le_of_ble_eq_true rfl)) rfl
set_option maxRecDepth 20000 in
theorem i38_17 : ex_ X d 38 17 [v0, v1, v2, v3, .int x] [] h Q = ex_ X d 38 19 [v0, v1, v2, v3, .int x] [.int x] h Q := ex_nx (show mx_at 38 17 = some (.iload 4, 2) by decide +kernel) rfl
set_option maxRecDepth 20000 in
theorem i38_19 : ex_ X d 38 19 [v0, v1, v2, .int x, v4] [w0] h Q = ex_ X d 38 20 [v0, v1, v2, .int x, v4] [.int x, w0] h Q := ex_nx (show mx_at 38 19 = some (.iload_n 3, 1) by decide +kernel) rfl
set_option maxRecDepth 20000 in
theorem i38_20 : ex_ X d 38 20 [v0, v1, v2, v3, v4] [.int y, .int x] h Q = if y ≤ x then ex_ X d 38 46 [v0, v1, v2, v3, v4] [] h Q else ex_ X d 38 23 [v0, v1, v2, v3, v4] [] h Q := (R_br (show mx_at 38 20 = some (.if_icmp .ge 26, 3) by decide +kernel) rfl rfl).trans mx_ite
set_option maxRecDepth 20000 in
theorem i38_23 : ex_ X d 38 23 [.ref a, v1, v2, v3, v4] [] h Q = ex_ X d 38 24 [.ref a, v1, v2, v3, v4] [.ref a] h Q := ex_nx (show mx_at 38 23 = some (.aload_n 0, 1) by decide +kernel) rfl
set_option maxRecDepth 20000 in
theorem i38_24 : ex_ X d 38 24 [v0, v1, v2, v3, v4] [.ref a] h Q = (gk_ h a 0 [(5, 0)] = true ∧ ex_ X d 38 27 [v0, v1, v2, v3, v4] [gv_ h a 0] h Q) := R_getf (show mx_at 38 24 = some (.getfield 7, 3) by decide +kernel) (mx_fdo ow38 fd50007)
set_option maxRecDepth 20000 in
theorem i38_27 : ex_ X d 38 27 [v0, v1, v2, v3, .int x] [w0] h Q = ex_ X d 38 29 [v0, v1, v2, v3, .int x] [.int x, w0] h Q := ex_nx (show mx_at 38 27 = some (.iload 4, 2) by decide +kernel) rfl
set_option maxRecDepth 20000 in
theorem i38_29 : ex_ X d 38 29 [v0, v1, v2, v3, v4] [.int i, .ref a] h Q = (ik_ h a i = true ∧ ex_ X d 38 30 [v0, v1, v2, v3, v4] [.int (ia_ h a i)] h Q) := R_iald (show mx_at 38 29 = some (.iaload, 1) by decide +kernel)
set_option maxRecDepth 20000 in
theorem i38_30 : ex_ X d 38 30 [v0, .ref a, v2, v3, v4] [w0] h Q = ex_ X d 38 31 [v0, .ref a, v2, v3, v4] [.ref a, w0] h Q := ex_nx (show mx_at 38 30 = some (.aload_n 1, 1) by decide +kernel) rfl
set_option maxRecDepth 20000 in
theorem i38_31 : ex_ X d 38 31 [v0, v1, v2, v3, .int x] [w0, w1] h Q = ex_ X d 38 33 [v0, v1, v2, v3, .int x] [.int x, w0, w1] h Q := ex_nx (show mx_at 38 31 = some (.iload 4, 2) by decide +kernel) rfl
set_option maxRecDepth 20000 in
theorem i38_33 : ex_ X d 38 33 [v0, v1, v2, v3, v4] [.int i, .ref a, w0] h Q = (ik_ h a i = true ∧ ex_ X d 38 34 [v0, v1, v2, v3, v4] [.int (ia_ h a i), w0] h Q) := R_iald (show mx_at 38 33 = some (.iaload, 1) by decide +kernel)
set_option maxRecDepth 20000 in
theorem i38_34 : ex_ X d 38 34 [v0, v1, v2, v3, v4] [.int y, .int x] h Q = if x = y then ex_ X d 38 40 [v0, v1, v2, v3, v4] [] h Q else ex_ X d 38 37 [v0, v1, v2, v3, v4] [] h Q := (R_br (show mx_at 38 34 = some (.if_icmp .eq 6, 3) by decide +kernel) rfl rfl).trans mx_ite
set_option maxRecDepth 20000 in
theorem i38_37 : ex_ X d 38 37 [v0, v1, v2, v3, .int x] [] h Q = ex_ X d 38 39 [v0, v1, v2, v3, .int x] [.int x] h Q := ex_nx (show mx_at 38 37 = some (.iload 4, 2) by decide +kernel) rfl
set_option maxRecDepth 20000 in
theorem i38_39 : ex_ X d 38 39 [v0, v1, v2, v3, v4] [.int x] h Q = Q (some (.int x)) h := ex_ret (show mx_at 38 39 = some (.ireturn, 1) by decide +kernel) (mx_retI rt38)
set_option maxRecDepth 20000 in
theorem i38_40 : ex_ X d 38 40 [v0, v1, v2, v3, .int x] [] h Q = (mx_nl v3 = true ∧ ex_ X d 38 43 [v0, v1, v2, v3, .int (x + 1)] [] h Q) := R_iinc (n := 4) (c := 1) (show mx_at 38 40 = some (.iinc 4 1, 3) by decide +kernel) rfl
set_option maxRecDepth 20000 in
theorem i38_43 : ex_ X d 38 43 [v0, v1, v2, v3, v4] [] h Q = ex_ X d 38 17 [v0, v1, v2, v3, v4] [] h Q := R_to (show mx_at 38 43 = some (.goto (-26), 3) by decide +kernel) rfl rfl
set_option maxRecDepth 20000 in
theorem i38_46 : ex_ X d 38 46 [.ref a, v1, v2, v3, v4] [] h Q = ex_ X d 38 47 [.ref a, v1, v2, v3, v4] [.ref a] h Q := ex_nx (show mx_at 38 46 = some (.aload_n 0, 1) by decide +kernel) rfl
set_option maxRecDepth 20000 in
theorem i38_47 : ex_ X d 38 47 [v0, v1, v2, v3, v4] [.ref a] h Q = (gk_ h a 1 [(5, 0)] = true ∧ ex_ X d 38 50 [v0, v1, v2, v3, v4] [gv_ h a 1] h Q) := R_getf (show mx_at 38 47 = some (.getfield 13, 3) by decide +kernel) (mx_fdo ow38 fd50013)
set_option maxRecDepth 20000 in
theorem i38_50 : ex_ X d 38 50 [v0, v1, .int x, v3, v4] [w0] h Q = ex_ X d 38 51 [v0, v1, .int x, v3, v4] [.int x, w0] h Q := ex_nx (show mx_at 38 50 = some (.iload_n 2, 1) by decide +kernel) rfl
set_option maxRecDepth 20000 in
theorem i38_51 : ex_ X d 38 51 [v0, v1, v2, v3, v4] [.int y, .int x] h Q = if ¬ x = y then ex_ X d 38 58 [v0, v1, v2, v3, v4] [] h Q else ex_ X d 38 54 [v0, v1, v2, v3, v4] [] h Q := (R_br (show mx_at 38 51 = some (.if_icmp .ne 7, 3) by decide +kernel) rfl rfl).trans mx_ite
set_option maxRecDepth 20000 in
theorem i38_54 : ex_ X d 38 54 [v0, v1, v2, v3, v4] [] h Q = ex_ X d 38 55 [v0, v1, v2, v3, v4] [.int (-1)] h Q := R_iconst (show mx_at 38 54 = some (.iconst (-1), 1) by decide +kernel) (by decide)
set_option maxRecDepth 20000 in
theorem i38_55 : ex_ X d 38 55 [v0, v1, v2, v3, v4] [w0] h Q = ex_ X d 38 59 [v0, v1, v2, v3, v4] [w0] h Q := R_to (show mx_at 38 55 = some (.goto 4, 3) by decide +kernel) rfl rfl
set_option maxRecDepth 20000 in
theorem i38_58 : ex_ X d 38 58 [v0, v1, v2, .int x, v4] [] h Q = ex_ X d 38 59 [v0, v1, v2, .int x, v4] [.int x] h Q := ex_nx (show mx_at 38 58 = some (.iload_n 3, 1) by decide +kernel) rfl
set_option maxRecDepth 20000 in
theorem i38_59 : ex_ X d 38 59 [v0, v1, v2, v3, v4] [.int x] h Q = Q (some (.int x)) h := ex_ret (show mx_at 38 59 = some (.ireturn, 1) by decide +kernel) (mx_retI rt38)
theorem i38_e : ev_ X d 38 [.ref a, .ref a0, .int x1] h Q = ex_ X d 38 0 [.ref a, .ref a0, .int x1, .double 0, .double 0] [] h Q := by rw [ev_, ml38]; rfl
-- 39 X5_become
set_option maxRecDepth 20000 in
theorem i39_0 : ex_ X d 39 0 [v0, .ref a, v2] [] h Q = ex_ X d 39 1 [v0, .ref a, v2] [.ref a] h Q := ex_nx (show mx_at 39 0 = some (.aload_n 1, 1) by decide +kernel) rfl
set_option maxRecDepth 20000 in
theorem i39_1 : ex_ X d 39 1 [v0, v1, v2] [.ref a] h Q = (gk_ h a 1 [(5, 0)] = true ∧ ex_ X d 39 4 [v0, v1, v2] [gv_ h a 1] h Q) := R_getf (show mx_at 39 1 = some (.getfield 13, 3) by decide +kernel) (mx_fdo ow39 fd50013)
set_option maxRecDepth 20000 in
theorem i39_4 : ex_ X d 39 4 [.ref a, v1, v2] [w0] h Q = ex_ X d 39 5 [.ref a, v1, v2] [.ref a, w0] h Q := ex_nx (show mx_at 39 4 = some (.aload_n 0, 1) by decide +kernel) rfl
set_option maxRecDepth 20000 in
theorem i39_5 : ex_ X d 39 5 [v0, v1, v2] [.ref a, w0] h Q = (gk_ h a 0 [(5, 0)] = true ∧ ex_ X d 39 8 [v0, v1, v2] [gv_ h a 0, w0] h Q) := R_getf (show mx_at 39 5 = some (.getfield 7, 3) by decide +kernel) (mx_fdo ow39 fd50007)
set_option maxRecDepth 20000 in
theorem i39_8 (ha : al_ h a = some b) : ex_ X d 39 8 [v0, v1, v2] [.ref a, w0] h Q = ex_ X d 39 9 [v0, v1, v2] [.int (Int32.ofNat b), w0] h Q := R_alen (show mx_at 39 8 = some (.arraylength, 1) by decide +kernel) ha
set_option maxRecDepth 20000 in
theorem i39_9 : ex_ X (d + 1) 39 9 [v0, v1, v2] [.int y, .int x] h Q = ex_ X (d + 1) 39 12 [v0, v1, v2] [.int (if y < x then y else x)] h Q := R_min (show mx_at 39 9 = some (.invokestatic 17, 3) by decide +kernel) (mx_clk ow39 cc5_17) (Nat.le_of_ble_eq_true rfl)
set_option maxRecDepth 20000 in
theorem i39_12 : ex_ X d 39 12 [v0, v1, v2] [.int x] h Q = (mx_nl v1 = true ∧ ex_ X d 39 13 [v0, v1, .int x] [] h Q) := mx_t1 (R_st (ok := mx_isI) (n := 2) (w := 1) (show mx_at 39 12 = some (.istore_n 2, 1) by decide +kernel) (fun _ _ => rfl) (Nat.le_of_ble_eq_true rfl)) rfl
set_option maxRecDepth 20000 in
theorem i39_13 : ex_ X d 39 13 [v0, .ref a, v2] [] h Q = ex_ X d 39 14 [v0, .ref a, v2] [.ref a] h Q := ex_nx (show mx_at 39 13 = some (.aload_n 1, 1) by decide +kernel) rfl
set_option maxRecDepth 20000 in
theorem i39_14 : ex_ X d 39 14 [v0, v1, v2] [.ref a] h Q = (gk_ h a 0 [(5, 0)] = true ∧ ex_ X d 39 17 [v0, v1, v2] [gv_ h a 0] h Q) := R_getf (show mx_at 39 14 = some (.getfield 7, 3) by decide +kernel) (mx_fdo ow39 fd50007)
set_option maxRecDepth 20000 in
theorem i39_17 : ex_ X d 39 17 [v0, v1, v2] [w0] h Q = ex_ X d 39 18 [v0, v1, v2] [.int 0, w0] h Q := R_iconst (show mx_at 39 17 = some (.iconst 0, 1) by decide +kernel) (by decide)
set_option maxRecDepth 20000 in
theorem i39_18 : ex_ X d 39 18 [.ref a, v1, v2] [w0, w1] h Q = ex_ X d 39 19 [.ref a, v1, v2] [.ref a, w0, w1] h Q := ex_nx (show mx_at 39 18 = some (.aload_n 0, 1) by decide +kernel) rfl
set_option maxRecDepth 20000 in
theorem i39_19 : ex_ X d 39 19 [v0, v1, v2] [.ref a, w0, w1] h Q = (gk_ h a 0 [(5, 0)] = true ∧ ex_ X d 39 22 [v0, v1, v2] [gv_ h a 0, w0, w1] h Q) := R_getf (show mx_at 39 19 = some (.getfield 7, 3) by decide +kernel) (mx_fdo ow39 fd50007)
set_option maxRecDepth 20000 in
theorem i39_22 : ex_ X d 39 22 [v0, v1, v2] [w0, w1, w2] h Q = ex_ X d 39 23 [v0, v1, v2] [.int 0, w0, w1, w2] h Q := R_iconst (show mx_at 39 22 = some (.iconst 0, 1) by decide +kernel) (by decide)
set_option maxRecDepth 20000 in
theorem i39_23 : ex_ X d 39 23 [v0, v1, .int x] [w0, w1, w2, w3] h Q = ex_ X d 39 24 [v0, v1, .int x] [.int x, w0, w1, w2, w3] h Q := ex_nx (show mx_at 39 23 = some (.iload_n 2, 1) by decide +kernel) rfl
set_option maxRecDepth 20000 in
theorem i39_24 : ex_ X (d + 1) 39 24 [v0, v1, v2] [.int x, .int y, .ref a, .int z, .ref b] h Q = (ck_ h a b z y x = true ∧ ex_ X (d + 1) 39 27 [v0, v1, v2] [] (cs_ h a b z y x) Q) := R_copy (show mx_at 39 24 = some (.invokestatic 23, 3) by decide +kernel) (mx_clk ow39 cc5_23) (Nat.le_of_ble_eq_true rfl)
set_option maxRecDepth 20000 in
theorem i39_27 : ex_ X d 39 27 [.ref a, v1, v2] [] h Q = ex_ X d 39 28 [.ref a, v1, v2] [.ref a] h Q := ex_nx (show mx_at 39 27 = some (.aload_n 0, 1) by decide +kernel) rfl
set_option maxRecDepth 20000 in
theorem i39_28 : ex_ X d 39 28 [v0, v1, .int x] [w0] h Q = ex_ X d 39 29 [v0, v1, .int x] [.int x, w0] h Q := ex_nx (show mx_at 39 28 = some (.iload_n 2, 1) by decide +kernel) rfl
set_option maxRecDepth 20000 in
theorem i39_29 : ex_ X d 39 29 [v0, v1, v2] [w, .ref a] h Q = (pk_ 39 h a 1 w [(5, 0)] = true ∧ ex_ X d 39 32 [v0, v1, v2] [] (pf_ h a 1 w) Q) := R_putf (show mx_at 39 29 = some (.putfield 13, 3) by decide +kernel) (mx_fdo ow39 fd50013)
set_option maxRecDepth 20000 in
theorem i39_32 : ex_ X d 39 32 [v0, v1, v2] [] h Q = Q none h := ex_ret (show mx_at 39 32 = some (.return_, 1) by decide +kernel) (mx_retV rt39)
theorem i39_e : ev_ X d 39 [.ref a, .ref a0] h Q = ex_ X d 39 0 [.ref a, .ref a0, .double 0] [] h Q := by rw [ev_, ml39]; rfl
-- 40 X6_init
set_option maxRecDepth 20000 in
theorem i40_0 : ex_ X d 40 0 [.ref a, v1, v2, v3, v4, v5] [] h Q = ex_ X d 40 1 [.ref a, v1, v2, v3, v4, v5] [.ref a] h Q := ex_nx (show mx_at 40 0 = some (.aload_n 0, 1) by decide +kernel) rfl
set_option maxRecDepth 20000 in
theorem i40_1 : ex_ X (d + 1) 40 1 [v0, v1, v2, v3, v4, v5] [.ref a] h Q = ex_ X (d + 1) 40 4 [v0, v1, v2, v3, v4, v5] [] h Q := R_obj (show mx_at 40 1 = some (.invokespecial 1, 3) by decide +kernel) (mx_clk ow40 cc6_1) (Nat.le_of_ble_eq_true rfl)
set_option maxRecDepth 20000 in
theorem i40_4 : ex_ X d 40 4 [.ref a, v1, v2, v3, v4, v5] [] h Q = ex_ X d 40 5 [.ref a, v1, v2, v3, v4, v5] [.ref a] h Q := ex_nx (show mx_at 40 4 = some (.aload_n 0, 1) by decide +kernel) rfl
set_option maxRecDepth 20000 in
theorem i40_5 : ex_ X d 40 5 [v0, .int x, v2, v3, v4, v5] [w0] h Q = ex_ X d 40 6 [v0, .int x, v2, v3, v4, v5] [.int x, w0] h Q := ex_nx (show mx_at 40 5 = some (.iload_n 1, 1) by decide +kernel) rfl
set_option maxRecDepth 20000 in
theorem i40_6 : ex_ X d 40 6 [v0, v1, v2, v3, v4, v5] [w, .ref a] h Q = (pk_ 40 h a 0 w [(0, 0), (1, 0), (2, 0), (4, 0), (6, 0), (8, 0), (9, 0)] = true ∧ ex_ X d 40 9 [v0, v1, v2, v3, v4, v5] [] (pf_ h a 0 w) Q) := R_putf (show mx_at 40 6 = some (.putfield 7, 3) by decide +kernel) (mx_fdo ow40 fd60007)
set_option maxRecDepth 20000 in
theorem i40_9 : ex_ X d 40 9 [.ref a, v1, v2, v3, v4, v5] [] h Q = ex_ X d 40 10 [.ref a, v1, v2, v3, v4, v5] [.ref a] h Q := ex_nx (show mx_at 40 9 = some (.aload_n 0, 1) by decide +kernel) rfl
set_option maxRecDepth 20000 in
theorem i40_10 : ex_ X d 40 10 [v0, v1, .int x, v3, v4, v5] [w0] h Q = ex_ X d 40 11 [v0, v1, .int x, v3, v4, v5] [.int x, w0] h Q := ex_nx (show mx_at 40 10 = some (.iload_n 2, 1) by decide +kernel) rfl
set_option maxRecDepth 20000 in
theorem i40_11 : ex_ X d 40 11 [v0, v1, v2, v3, v4, v5] [w, .ref a] h Q = (pk_ 40 h a 1 w [(0, 0), (1, 0), (2, 0), (4, 0), (6, 0), (8, 0), (9, 0)] = true ∧ ex_ X d 40 14 [v0, v1, v2, v3, v4, v5] [] (pf_ h a 1 w) Q) := R_putf (show mx_at 40 11 = some (.putfield 13, 3) by decide +kernel) (mx_fdo ow40 fd60013)
set_option maxRecDepth 20000 in
theorem i40_14 : ex_ X d 40 14 [.ref a, v1, v2, v3, v4, v5] [] h Q = ex_ X d 40 15 [.ref a, v1, v2, v3, v4, v5] [.ref a] h Q := ex_nx (show mx_at 40 14 = some (.aload_n 0, 1) by decide +kernel) rfl
set_option maxRecDepth 20000 in
theorem i40_15 : ex_ X d 40 15 [v0, v1, v2, .int x, v4, v5] [w0] h Q = ex_ X d 40 16 [v0, v1, v2, .int x, v4, v5] [.int x, w0] h Q := ex_nx (show mx_at 40 15 = some (.iload_n 3, 1) by decide +kernel) rfl
set_option maxRecDepth 20000 in
theorem i40_16 : ex_ X d 40 16 [v0, v1, v2, v3, v4, v5] [w, .ref a] h Q = (pk_ 40 h a 2 w [(0, 0), (1, 0), (2, 0), (4, 0), (6, 0), (8, 0), (9, 0)] = true ∧ ex_ X d 40 19 [v0, v1, v2, v3, v4, v5] [] (pf_ h a 2 w) Q) := R_putf (show mx_at 40 16 = some (.putfield 16, 3) by decide +kernel) (mx_fdo ow40 fd60016)
set_option maxRecDepth 20000 in
theorem i40_19 : ex_ X d 40 19 [.ref a, v1, v2, v3, v4, v5] [] h Q = ex_ X d 40 20 [.ref a, v1, v2, v3, v4, v5] [.ref a] h Q := ex_nx (show mx_at 40 19 = some (.aload_n 0, 1) by decide +kernel) rfl
set_option maxRecDepth 20000 in
theorem i40_20 : ex_ X d 40 20 [v0, v1, v2, v3, .int x, v5] [w0] h Q = ex_ X d 40 22 [v0, v1, v2, v3, .int x, v5] [.int x, w0] h Q := ex_nx (show mx_at 40 20 = some (.iload 4, 2) by decide +kernel) rfl
set_option maxRecDepth 20000 in
theorem i40_22 : ex_ X d 40 22 [v0, v1, v2, v3, v4, v5] [w, .ref a] h Q = (pk_ 40 h a 3 w [(0, 0), (1, 0), (2, 0), (4, 0), (6, 0), (8, 0), (9, 0)] = true ∧ ex_ X d 40 25 [v0, v1, v2, v3, v4, v5] [] (pf_ h a 3 w) Q) := R_putf (show mx_at 40 22 = some (.putfield 19, 3) by decide +kernel) (mx_fdo ow40 fd60019)
set_option maxRecDepth 20000 in
theorem i40_25 : ex_ X d 40 25 [.ref a, v1, v2, v3, v4, v5] [] h Q = ex_ X d 40 26 [.ref a, v1, v2, v3, v4, v5] [.ref a] h Q := ex_nx (show mx_at 40 25 = some (.aload_n 0, 1) by decide +kernel) rfl
set_option maxRecDepth 20000 in
theorem i40_26 : ex_ X d 40 26 [v0, v1, v2, v3, v4, .int x] [w0] h Q = ex_ X d 40 28 [v0, v1, v2, v3, v4, .int x] [.int x, w0] h Q := ex_nx (show mx_at 40 26 = some (.iload 5, 2) by decide +kernel) rfl
set_option maxRecDepth 20000 in
theorem i40_28 : ex_ X d 40 28 [v0, v1, v2, v3, v4, v5] [w, .ref a] h Q = (pk_ 40 h a 4 w [(0, 0), (1, 0), (2, 0), (4, 0), (6, 0), (8, 0), (9, 0)] = true ∧ ex_ X d 40 31 [v0, v1, v2, v3, v4, v5] [] (pf_ h a 4 w) Q) := R_putf (show mx_at 40 28 = some (.putfield 22, 3) by decide +kernel) (mx_fdo ow40 fd60022)
set_option maxRecDepth 20000 in
theorem i40_31 : ex_ X d 40 31 [v0, v1, v2, v3, v4, v5] [] h Q = Q none h := ex_ret (show mx_at 40 31 = some (.return_, 1) by decide +kernel) (mx_retV rt40)
theorem i40_e : ev_ X d 40 [.ref a, .int x0, .int x1, .int x2, .int x3, .int x4] h Q = ex_ X d 40 0 [.ref a, .int x0, .int x1, .int x2, .int x3, .int x4] [] h Q := by rw [ev_, ml40]; rfl
-- 41 X6_wishes
set_option maxRecDepth 20000 in
theorem i41_0 : ex_ X d 41 0 [v0, .int x, v2] [] h Q = ex_ X d 41 1 [v0, .int x, v2] [.int x] h Q := ex_nx (show mx_at 41 0 = some (.iload_n 1, 1) by decide +kernel) rfl
set_option maxRecDepth 20000 in
theorem i41_1 : ex_ X d 41 1 [v0, v1, v2] [.int x] h Q = if 0 ≤ x then ex_ X d 41 10 [v0, v1, v2] [] h Q else ex_ X d 41 4 [v0, v1, v2] [] h Q := (R_br (show mx_at 41 1 = some (.ifCond .ge 9, 3) by decide +kernel) rfl rfl).trans mx_ite
set_option maxRecDepth 20000 in
theorem i41_4 : ex_ X d 41 4 [v0, v1, v2] [] h Q = ex_ X d 41 7 [v0, v1, v2] [.int 500] h Q := R_sipush (show mx_at 41 4 = some (.sipush 500, 3) by decide +kernel) (by decide)
set_option maxRecDepth 20000 in
theorem i41_7 : ex_ X d 41 7 [v0, v1, v2] [w0] h Q = ex_ X d 41 11 [v0, v1, v2] [w0] h Q := R_to (show mx_at 41 7 = some (.goto 4, 3) by decide +kernel) rfl rfl
set_option maxRecDepth 20000 in
theorem i41_10 : ex_ X d 41 10 [v0, .int x, v2] [] h Q = ex_ X d 41 11 [v0, .int x, v2] [.int x] h Q := ex_nx (show mx_at 41 10 = some (.iload_n 1, 1) by decide +kernel) rfl
set_option maxRecDepth 20000 in
theorem i41_11 : ex_ X d 41 11 [v0, v1, v2] [.int x] h Q = Q (some (.int x)) h := ex_ret (show mx_at 41 11 = some (.ireturn, 1) by decide +kernel) (mx_retI rt41)
theorem i41_e : ev_ X d 41 [.ref a, .int x0, .int x1] h Q = ex_ X d 41 0 [.ref a, .int x0, .int x1] [] h Q := by rw [ev_, ml41]; rfl
-- 42 X6_wipes
set_option maxRecDepth 20000 in
theorem i42_0 : ex_ X d 42 0 [v0, v1, v2] [] h Q = ex_ X d 42 1 [v0, v1, v2] [.int 0] h Q := R_iconst (show mx_at 42 0 = some (.iconst 0, 1) by decide +kernel) (by decide)
set_option maxRecDepth 20000 in
theorem i42_1 (hx : x = 0 ∨ x = 1) : ex_ X d 42 1 [v0, v1, v2] [.int x] h Q = Q (some (.int x)) h := ex_ret (show mx_at 42 1 = some (.ireturn, 1) by decide +kernel) (mx_retZ hx rt42)
theorem i42_e : ev_ X d 42 [.ref a, .int x0, .int x1] h Q = ex_ X d 42 0 [.ref a, .int x0, .int x1] [] h Q := by rw [ev_, ml42]; rfl
-- 43 X6_asks
set_option maxRecDepth 20000 in
theorem i43_0 : ex_ X d 43 0 [v0, v1, .ref a] [] h Q = ex_ X d 43 1 [v0, v1, .ref a] [.ref a] h Q := ex_nx (show mx_at 43 0 = some (.aload_n 2, 1) by decide +kernel) rfl
set_option maxRecDepth 20000 in
theorem i43_1 : ex_ X d 43 1 [v0, v1, v2] [w0] h Q = ex_ X d 43 3 [v0, v1, v2] [.int 10, w0] h Q := R_bipush (show mx_at 43 1 = some (.bipush 10, 2) by decide +kernel) (by decide)
set_option maxRecDepth 20000 in
theorem i43_3 (hc : co_ h a = some 5) : ex_ X (d + 1) 43 3 [v0, v1, v2] [.int x0, .ref a] h Q = ev_ X d 36 [.ref a, .int x0] h (fun r h' => ex_ X (d + 1) 43 6 [v0, v1, v2] (r.toList ++ []) h' Q) := R_vir (show mx_at 43 3 = some (.invokevirtual 25, 3) by decide +kernel) (mx_clk ow43 cc6_25) (Nat.le_of_ble_eq_true rfl) rfl rfl hc rfl (Nat.le_of_ble_eq_true rfl) (Nat.le_of_ble_eq_true rfl) (by rw [ml36]; exact Nat.le_of_ble_eq_true rfl)
set_option maxRecDepth 20000 in
theorem i43_6 : ex_ X d 43 6 [v0, v1, v2] [.int x] h Q = ex_ X d 43 7 [v0, v1, v2] [] h Q := ex_nx (show mx_at 43 6 = some (.pop, 1) by decide +kernel) rfl
set_option maxRecDepth 20000 in
theorem i43_7 : ex_ X d 43 7 [v0, .int x, v2] [] h Q = ex_ X d 43 8 [v0, .int x, v2] [.int x] h Q := ex_nx (show mx_at 43 7 = some (.iload_n 1, 1) by decide +kernel) rfl
set_option maxRecDepth 20000 in
theorem i43_8 : ex_ X d 43 8 [.ref a, v1, v2] [w0] h Q = ex_ X d 43 9 [.ref a, v1, v2] [.ref a, w0] h Q := ex_nx (show mx_at 43 8 = some (.aload_n 0, 1) by decide +kernel) rfl
set_option maxRecDepth 20000 in
theorem i43_9 : ex_ X d 43 9 [v0, v1, v2] [.ref a, w0] h Q = (gk_ h a 0 [(0, 0), (1, 0), (2, 0), (4, 0), (6, 0), (8, 0), (9, 0)] = true ∧ ex_ X d 43 12 [v0, v1, v2] [gv_ h a 0, w0] h Q) := R_getf (show mx_at 43 9 = some (.getfield 7, 3) by decide +kernel) (mx_fdo ow43 fd60007)
set_option maxRecDepth 20000 in
theorem i43_12 : ex_ X d 43 12 [v0, v1, v2] [.int y, .int x] h Q = ex_ X d 43 13 [v0, v1, v2] [.int (x + y)] h Q := ex_nx (show mx_at 43 12 = some (.iadd, 1) by decide +kernel) rfl
set_option maxRecDepth 20000 in
theorem i43_13 : ex_ X d 43 13 [v0, v1, v2] [.int x] h Q = Q (some (.int x)) h := ex_ret (show mx_at 43 13 = some (.ireturn, 1) by decide +kernel) (mx_retI rt43)
theorem i43_e : ev_ X d 43 [.ref a, .int x0, .ref a1] h Q = ex_ X d 43 0 [.ref a, .int x0, .ref a1] [] h Q := by rw [ev_, ml43]; rfl
-- 44 X6_sells
set_option maxRecDepth 20000 in
theorem i44_0 : ex_ X d 44 0 [v0, v1, .ref a] [] h Q = ex_ X d 44 1 [v0, v1, .ref a] [.ref a] h Q := ex_nx (show mx_at 44 0 = some (.aload_n 2, 1) by decide +kernel) rfl
set_option maxRecDepth 20000 in
theorem i44_1 : ex_ X d 44 1 [v0, v1, v2] [w0] h Q = ex_ X d 44 3 [v0, v1, v2] [.int 11, w0] h Q := R_bipush (show mx_at 44 1 = some (.bipush 11, 2) by decide +kernel) (by decide)
set_option maxRecDepth 20000 in
theorem i44_3 (hc : co_ h a = some 5) : ex_ X (d + 1) 44 3 [v0, v1, v2] [.int x0, .ref a] h Q = ev_ X d 36 [.ref a, .int x0] h (fun r h' => ex_ X (d + 1) 44 6 [v0, v1, v2] (r.toList ++ []) h' Q) := R_vir (show mx_at 44 3 = some (.invokevirtual 25, 3) by decide +kernel) (mx_clk ow44 cc6_25) (Nat.le_of_ble_eq_true rfl) rfl rfl hc rfl (Nat.le_of_ble_eq_true rfl) (Nat.le_of_ble_eq_true rfl) (by rw [ml36]; exact Nat.le_of_ble_eq_true rfl)
set_option maxRecDepth 20000 in
theorem i44_6 : ex_ X d 44 6 [v0, v1, v2] [.int x] h Q = ex_ X d 44 7 [v0, v1, v2] [] h Q := ex_nx (show mx_at 44 6 = some (.pop, 1) by decide +kernel) rfl
set_option maxRecDepth 20000 in
theorem i44_7 : ex_ X d 44 7 [.ref a, v1, v2] [] h Q = ex_ X d 44 8 [.ref a, v1, v2] [.ref a] h Q := ex_nx (show mx_at 44 7 = some (.aload_n 0, 1) by decide +kernel) rfl
set_option maxRecDepth 20000 in
theorem i44_8 : ex_ X d 44 8 [v0, .int x, v2] [w0] h Q = ex_ X d 44 9 [v0, .int x, v2] [.int x, w0] h Q := ex_nx (show mx_at 44 8 = some (.iload_n 1, 1) by decide +kernel) rfl
set_option maxRecDepth 20000 in
theorem i44_9 : ex_ X d 44 9 [v0, v1, .ref a] [w0, w1] h Q = ex_ X d 44 10 [v0, v1, .ref a] [.ref a, w0, w1] h Q := ex_nx (show mx_at 44 9 = some (.aload_n 2, 1) by decide +kernel) rfl
set_option maxRecDepth 20000 in
theorem i44_10_c0 (hc : co_ h a = some 0) : ex_ X (d + 1) 44 10 [v0, v1, v2] [.ref a1, .int x0, .ref a] h Q = ev_ X d 43 [.ref a, .int x0, .ref a1] h (fun r h' => ex_ X (d + 1) 44 13 [v0, v1, v2] (r.toList ++ []) h' Q) := R_vir (show mx_at 44 10 = some (.invokevirtual 31, 3) by decide +kernel) (mx_clk ow44 cc6_31) (Nat.le_of_ble_eq_true rfl) rfl rfl hc rfl (Nat.le_of_ble_eq_true rfl) (Nat.le_of_ble_eq_true rfl) (by rw [ml43]; exact Nat.le_of_ble_eq_true rfl)
set_option maxRecDepth 20000 in
theorem i44_10_c1 (hc : co_ h a = some 1) : ex_ X (d + 1) 44 10 [v0, v1, v2] [.ref a1, .int x0, .ref a] h Q = ev_ X d 43 [.ref a, .int x0, .ref a1] h (fun r h' => ex_ X (d + 1) 44 13 [v0, v1, v2] (r.toList ++ []) h' Q) := R_vir (show mx_at 44 10 = some (.invokevirtual 31, 3) by decide +kernel) (mx_clk ow44 cc6_31) (Nat.le_of_ble_eq_true rfl) rfl rfl hc rfl (Nat.le_of_ble_eq_true rfl) (Nat.le_of_ble_eq_true rfl) (by rw [ml43]; exact Nat.le_of_ble_eq_true rfl)
set_option maxRecDepth 20000 in
theorem i44_10_c2 (hc : co_ h a = some 2) : ex_ X (d + 1) 44 10 [v0, v1, v2] [.ref a1, .int x0, .ref a] h Q = ev_ X d 9 [.ref a, .int x0, .ref a1] h (fun r h' => ex_ X (d + 1) 44 13 [v0, v1, v2] (r.toList ++ []) h' Q) := R_vir (show mx_at 44 10 = some (.invokevirtual 31, 3) by decide +kernel) (mx_clk ow44 cc6_31) (Nat.le_of_ble_eq_true rfl) rfl rfl hc rfl (Nat.le_of_ble_eq_true rfl) (Nat.le_of_ble_eq_true rfl) (by rw [ml9]; exact Nat.le_of_ble_eq_true rfl)
set_option maxRecDepth 20000 in
theorem i44_10_c4 (hc : co_ h a = some 4) : ex_ X (d + 1) 44 10 [v0, v1, v2] [.ref a1, .int x0, .ref a] h Q = ev_ X d 43 [.ref a, .int x0, .ref a1] h (fun r h' => ex_ X (d + 1) 44 13 [v0, v1, v2] (r.toList ++ []) h' Q) := R_vir (show mx_at 44 10 = some (.invokevirtual 31, 3) by decide +kernel) (mx_clk ow44 cc6_31) (Nat.le_of_ble_eq_true rfl) rfl rfl hc rfl (Nat.le_of_ble_eq_true rfl) (Nat.le_of_ble_eq_true rfl) (by rw [ml43]; exact Nat.le_of_ble_eq_true rfl)
set_option maxRecDepth 20000 in
theorem i44_10_c6 (hc : co_ h a = some 6) : ex_ X (d + 1) 44 10 [v0, v1, v2] [.ref a1, .int x0, .ref a] h Q = ev_ X d 43 [.ref a, .int x0, .ref a1] h (fun r h' => ex_ X (d + 1) 44 13 [v0, v1, v2] (r.toList ++ []) h' Q) := R_vir (show mx_at 44 10 = some (.invokevirtual 31, 3) by decide +kernel) (mx_clk ow44 cc6_31) (Nat.le_of_ble_eq_true rfl) rfl rfl hc rfl (Nat.le_of_ble_eq_true rfl) (Nat.le_of_ble_eq_true rfl) (by rw [ml43]; exact Nat.le_of_ble_eq_true rfl)
set_option maxRecDepth 20000 in
theorem i44_10_c8 (hc : co_ h a = some 8) : ex_ X (d + 1) 44 10 [v0, v1, v2] [.ref a1, .int x0, .ref a] h Q = ev_ X d 54 [.ref a, .int x0, .ref a1] h (fun r h' => ex_ X (d + 1) 44 13 [v0, v1, v2] (r.toList ++ []) h' Q) := R_vir (show mx_at 44 10 = some (.invokevirtual 31, 3) by decide +kernel) (mx_clk ow44 cc6_31) (Nat.le_of_ble_eq_true rfl) rfl rfl hc rfl (Nat.le_of_ble_eq_true rfl) (Nat.le_of_ble_eq_true rfl) (by rw [ml54]; exact Nat.le_of_ble_eq_true rfl)
set_option maxRecDepth 20000 in
theorem i44_10_c9 (hc : co_ h a = some 9) : ex_ X (d + 1) 44 10 [v0, v1, v2] [.ref a1, .int x0, .ref a] h Q = ev_ X d 43 [.ref a, .int x0, .ref a1] h (fun r h' => ex_ X (d + 1) 44 13 [v0, v1, v2] (r.toList ++ []) h' Q) := R_vir (show mx_at 44 10 = some (.invokevirtual 31, 3) by decide +kernel) (mx_clk ow44 cc6_31) (Nat.le_of_ble_eq_true rfl) rfl rfl hc rfl (Nat.le_of_ble_eq_true rfl) (Nat.le_of_ble_eq_true rfl) (by rw [ml43]; exact Nat.le_of_ble_eq_true rfl)
set_option maxRecDepth 20000 in
theorem i44_13 : ex_ X d 44 13 [v0, v1, v2] [w0] h Q = ex_ X d 44 14 [v0, v1, v2] [.int 2, w0] h Q := R_iconst (show mx_at 44 13 = some (.iconst 2, 1) by decide +kernel) (by decide)
set_option maxRecDepth 20000 in
theorem i44_14 : ex_ X d 44 14 [v0, v1, v2] [.int y, .int x] h Q = ex_ X d 44 15 [v0, v1, v2] [.int (x * y)] h Q := ex_nx (show mx_at 44 14 = some (.imul, 1) by decide +kernel) rfl
set_option maxRecDepth 20000 in
theorem i44_15 : ex_ X d 44 15 [v0, v1, v2] [.int x] h Q = Q (some (.int x)) h := ex_ret (show mx_at 44 15 = some (.ireturn, 1) by decide +kernel) (mx_retI rt44)
theorem i44_e : ev_ X d 44 [.ref a, .int x0, .ref a1] h Q = ex_ X d 44 0 [.ref a, .int x0, .ref a1] [] h Q := by rw [ev_, ml44]; rfl
-- 45 X6_holds
set_option maxRecDepth 20000 in
theorem i45_0 : ex_ X d 45 0 [v0, v1, .ref a] [] h Q = ex_ X d 45 1 [v0, v1, .ref a] [.ref a] h Q := ex_nx (show mx_at 45 0 = some (.aload_n 2, 1) by decide +kernel) rfl
set_option maxRecDepth 20000 in
theorem i45_1 : ex_ X d 45 1 [v0, v1, v2] [w0] h Q = ex_ X d 45 3 [v0, v1, v2] [.int 12, w0] h Q := R_bipush (show mx_at 45 1 = some (.bipush 12, 2) by decide +kernel) (by decide)
set_option maxRecDepth 20000 in
theorem i45_3 (hc : co_ h a = some 5) : ex_ X (d + 1) 45 3 [v0, v1, v2] [.int x0, .ref a] h Q = ev_ X d 36 [.ref a, .int x0] h (fun r h' => ex_ X (d + 1) 45 6 [v0, v1, v2] (r.toList ++ []) h' Q) := R_vir (show mx_at 45 3 = some (.invokevirtual 25, 3) by decide +kernel) (mx_clk ow45 cc6_25) (Nat.le_of_ble_eq_true rfl) rfl rfl hc rfl (Nat.le_of_ble_eq_true rfl) (Nat.le_of_ble_eq_true rfl) (by rw [ml36]; exact Nat.le_of_ble_eq_true rfl)
set_option maxRecDepth 20000 in
theorem i45_6 : ex_ X d 45 6 [v0, v1, v2] [.int x] h Q = ex_ X d 45 7 [v0, v1, v2] [] h Q := ex_nx (show mx_at 45 6 = some (.pop, 1) by decide +kernel) rfl
set_option maxRecDepth 20000 in
theorem i45_7 : ex_ X d 45 7 [v0, .int x, v2] [] h Q = ex_ X d 45 8 [v0, .int x, v2] [.int x] h Q := ex_nx (show mx_at 45 7 = some (.iload_n 1, 1) by decide +kernel) rfl
set_option maxRecDepth 20000 in
theorem i45_8 : ex_ X d 45 8 [.ref a, v1, v2] [w0] h Q = ex_ X d 45 9 [.ref a, v1, v2] [.ref a, w0] h Q := ex_nx (show mx_at 45 8 = some (.aload_n 0, 1) by decide +kernel) rfl
set_option maxRecDepth 20000 in
theorem i45_9 : ex_ X d 45 9 [v0, v1, v2] [.ref a, w0] h Q = (gk_ h a 2 [(0, 0), (1, 0), (2, 0), (4, 0), (6, 0), (8, 0), (9, 0)] = true ∧ ex_ X d 45 12 [v0, v1, v2] [gv_ h a 2, w0] h Q) := R_getf (show mx_at 45 9 = some (.getfield 16, 3) by decide +kernel) (mx_fdo ow45 fd60016)
set_option maxRecDepth 20000 in
theorem i45_12 : ex_ X d 45 12 [v0, v1, v2] [.int y, .int x] h Q = ex_ X d 45 13 [v0, v1, v2] [.int (x - y)] h Q := ex_nx (show mx_at 45 12 = some (.isub, 1) by decide +kernel) rfl
set_option maxRecDepth 20000 in
theorem i45_13 : ex_ X d 45 13 [v0, v1, v2] [.int x] h Q = Q (some (.int x)) h := ex_ret (show mx_at 45 13 = some (.ireturn, 1) by decide +kernel) (mx_retI rt45)
theorem i45_e : ev_ X d 45 [.ref a, .int x0, .ref a1] h Q = ex_ X d 45 0 [.ref a, .int x0, .ref a1] [] h Q := by rw [ev_, ml45]; rfl
-- 46 X6_tells
set_option maxRecDepth 20000 in
theorem i46_0 : ex_ X d 46 0 [v0, v1, .ref a] [] h Q = ex_ X d 46 1 [v0, v1, .ref a] [.ref a] h Q := ex_nx (show mx_at 46 0 = some (.aload_n 2, 1) by decide +kernel) rfl
set_option maxRecDepth 20000 in
theorem i46_1 : ex_ X d 46 1 [v0, v1, v2] [w0] h Q = ex_ X d 46 3 [v0, v1, v2] [.int 13, w0] h Q := R_bipush (show mx_at 46 1 = some (.bipush 13, 2) by decide +kernel) (by decide)
set_option maxRecDepth 20000 in
theorem i46_3 (hc : co_ h a = some 5) : ex_ X (d + 1) 46 3 [v0, v1, v2] [.int x0, .ref a] h Q = ev_ X d 36 [.ref a, .int x0] h (fun r h' => ex_ X (d + 1) 46 6 [v0, v1, v2] (r.toList ++ []) h' Q) := R_vir (show mx_at 46 3 = some (.invokevirtual 25, 3) by decide +kernel) (mx_clk ow46 cc6_25) (Nat.le_of_ble_eq_true rfl) rfl rfl hc rfl (Nat.le_of_ble_eq_true rfl) (Nat.le_of_ble_eq_true rfl) (by rw [ml36]; exact Nat.le_of_ble_eq_true rfl)
set_option maxRecDepth 20000 in
theorem i46_6 : ex_ X d 46 6 [v0, v1, v2] [.int x] h Q = ex_ X d 46 7 [v0, v1, v2] [] h Q := ex_nx (show mx_at 46 6 = some (.pop, 1) by decide +kernel) rfl
set_option maxRecDepth 20000 in
theorem i46_7 : ex_ X d 46 7 [.ref a, v1, v2] [] h Q = ex_ X d 46 8 [.ref a, v1, v2] [.ref a] h Q := ex_nx (show mx_at 46 7 = some (.aload_n 0, 1) by decide +kernel) rfl
set_option maxRecDepth 20000 in
theorem i46_8 : ex_ X d 46 8 [v0, .int x, v2] [w0] h Q = ex_ X d 46 9 [v0, .int x, v2] [.int x, w0] h Q := ex_nx (show mx_at 46 8 = some (.iload_n 1, 1) by decide +kernel) rfl
set_option maxRecDepth 20000 in
theorem i46_9 : ex_ X d 46 9 [v0, v1, .ref a] [w0, w1] h Q = ex_ X d 46 10 [v0, v1, .ref a] [.ref a, w0, w1] h Q := ex_nx (show mx_at 46 9 = some (.aload_n 2, 1) by decide +kernel) rfl
set_option maxRecDepth 20000 in
theorem i46_10_c0 (hc : co_ h a = some 0) : ex_ X (d + 1) 46 10 [v0, v1, v2] [.ref a1, .int x0, .ref a] h Q = ev_ X d 2 [.ref a, .int x0, .ref a1] h (fun r h' => ex_ X (d + 1) 46 13 [v0, v1, v2] (r.toList ++ []) h' Q) := R_vir (show mx_at 46 10 = some (.invokevirtual 35, 3) by decide +kernel) (mx_clk ow46 cc6_35) (Nat.le_of_ble_eq_true rfl) rfl rfl hc rfl (Nat.le_of_ble_eq_true rfl) (Nat.le_of_ble_eq_true rfl) (by rw [ml2]; exact Nat.le_of_ble_eq_true rfl)
set_option maxRecDepth 20000 in
theorem i46_10_c1 (hc : co_ h a = some 1) : ex_ X (d + 1) 46 10 [v0, v1, v2] [.ref a1, .int x0, .ref a] h Q = ev_ X d 44 [.ref a, .int x0, .ref a1] h (fun r h' => ex_ X (d + 1) 46 13 [v0, v1, v2] (r.toList ++ []) h' Q) := R_vir (show mx_at 46 10 = some (.invokevirtual 35, 3) by decide +kernel) (mx_clk ow46 cc6_35) (Nat.le_of_ble_eq_true rfl) rfl rfl hc rfl (Nat.le_of_ble_eq_true rfl) (Nat.le_of_ble_eq_true rfl) (by rw [ml44]; exact Nat.le_of_ble_eq_true rfl)
set_option maxRecDepth 20000 in
theorem i46_10_c2 (hc : co_ h a = some 2) : ex_ X (d + 1) 46 10 [v0, v1, v2] [.ref a1, .int x0, .ref a] h Q = ev_ X d 44 [.ref a, .int x0, .ref a1] h (fun r h' => ex_ X (d + 1) 46 13 [v0, v1, v2] (r.toList ++ []) h' Q) := R_vir (show mx_at 46 10 = some (.invokevirtual 35, 3) by decide +kernel) (mx_clk ow46 cc6_35) (Nat.le_of_ble_eq_true rfl) rfl rfl hc rfl (Nat.le_of_ble_eq_true rfl) (Nat.le_of_ble_eq_true rfl) (by rw [ml44]; exact Nat.le_of_ble_eq_true rfl)
set_option maxRecDepth 20000 in
theorem i46_10_c4 (hc : co_ h a = some 4) : ex_ X (d + 1) 46 10 [v0, v1, v2] [.ref a1, .int x0, .ref a] h Q = ev_ X d 33 [.ref a, .int x0, .ref a1] h (fun r h' => ex_ X (d + 1) 46 13 [v0, v1, v2] (r.toList ++ []) h' Q) := R_vir (show mx_at 46 10 = some (.invokevirtual 35, 3) by decide +kernel) (mx_clk ow46 cc6_35) (Nat.le_of_ble_eq_true rfl) rfl rfl hc rfl (Nat.le_of_ble_eq_true rfl) (Nat.le_of_ble_eq_true rfl) (by rw [ml33]; exact Nat.le_of_ble_eq_true rfl)
set_option maxRecDepth 20000 in
theorem i46_10_c6 (hc : co_ h a = some 6) : ex_ X (d + 1) 46 10 [v0, v1, v2] [.ref a1, .int x0, .ref a] h Q = ev_ X d 44 [.ref a, .int x0, .ref a1] h (fun r h' => ex_ X (d + 1) 46 13 [v0, v1, v2] (r.toList ++ []) h' Q) := R_vir (show mx_at 46 10 = some (.invokevirtual 35, 3) by decide +kernel) (mx_clk ow46 cc6_35) (Nat.le_of_ble_eq_true rfl) rfl rfl hc rfl (Nat.le_of_ble_eq_true rfl) (Nat.le_of_ble_eq_true rfl) (by rw [ml44]; exact Nat.le_of_ble_eq_true rfl)
set_option maxRecDepth 20000 in
theorem i46_10_c8 (hc : co_ h a = some 8) : ex_ X (d + 1) 46 10 [v0, v1, v2] [.ref a1, .int x0, .ref a] h Q = ev_ X d 44 [.ref a, .int x0, .ref a1] h (fun r h' => ex_ X (d + 1) 46 13 [v0, v1, v2] (r.toList ++ []) h' Q) := R_vir (show mx_at 46 10 = some (.invokevirtual 35, 3) by decide +kernel) (mx_clk ow46 cc6_35) (Nat.le_of_ble_eq_true rfl) rfl rfl hc rfl (Nat.le_of_ble_eq_true rfl) (Nat.le_of_ble_eq_true rfl) (by rw [ml44]; exact Nat.le_of_ble_eq_true rfl)
set_option maxRecDepth 20000 in
theorem i46_10_c9 (hc : co_ h a = some 9) : ex_ X (d + 1) 46 10 [v0, v1, v2] [.ref a1, .int x0, .ref a] h Q = ev_ X d 44 [.ref a, .int x0, .ref a1] h (fun r h' => ex_ X (d + 1) 46 13 [v0, v1, v2] (r.toList ++ []) h' Q) := R_vir (show mx_at 46 10 = some (.invokevirtual 35, 3) by decide +kernel) (mx_clk ow46 cc6_35) (Nat.le_of_ble_eq_true rfl) rfl rfl hc rfl (Nat.le_of_ble_eq_true rfl) (Nat.le_of_ble_eq_true rfl) (by rw [ml44]; exact Nat.le_of_ble_eq_true rfl)
set_option maxRecDepth 20000 in
theorem i46_13 : ex_ X d 46 13 [.ref a, v1, v2] [w0] h Q = ex_ X d 46 14 [.ref a, v1, v2] [.ref a, w0] h Q := ex_nx (show mx_at 46 13 = some (.aload_n 0, 1) by decide +kernel) rfl
set_option maxRecDepth 20000 in
theorem i46_14 : ex_ X d 46 14 [v0, .int x, v2] [w0, w1] h Q = ex_ X d 46 15 [v0, .int x, v2] [.int x, w0, w1] h Q := ex_nx (show mx_at 46 14 = some (.iload_n 1, 1) by decide +kernel) rfl
set_option maxRecDepth 20000 in
theorem i46_15 : ex_ X d 46 15 [v0, v1, .ref a] [w0, w1, w2] h Q = ex_ X d 46 16 [v0, v1, .ref a] [.ref a, w0, w1, w2] h Q := ex_nx (show mx_at 46 15 = some (.aload_n 2, 1) by decide +kernel) rfl
set_option maxRecDepth 20000 in
theorem i46_16_c0 (hc : co_ h a = some 0) : ex_ X (d + 1) 46 16 [v0, v1, v2] [.ref a1, .int x0, .ref a, w0] h Q = ev_ X d 45 [.ref a, .int x0, .ref a1] h (fun r h' => ex_ X (d + 1) 46 19 [v0, v1, v2] (r.toList ++ [w0]) h' Q) := R_vir (show mx_at 46 16 = some (.invokevirtual 38, 3) by decide +kernel) (mx_clk ow46 cc6_38) (Nat.le_of_ble_eq_true rfl) rfl rfl hc rfl (Nat.le_of_ble_eq_true rfl) (Nat.le_of_ble_eq_true rfl) (by rw [ml45]; exact Nat.le_of_ble_eq_true rfl)
set_option maxRecDepth 20000 in
theorem i46_16_c1 (hc : co_ h a = some 1) : ex_ X (d + 1) 46 16 [v0, v1, v2] [.ref a1, .int x0, .ref a, w0] h Q = ev_ X d 45 [.ref a, .int x0, .ref a1] h (fun r h' => ex_ X (d + 1) 46 19 [v0, v1, v2] (r.toList ++ [w0]) h' Q) := R_vir (show mx_at 46 16 = some (.invokevirtual 38, 3) by decide +kernel) (mx_clk ow46 cc6_38) (Nat.le_of_ble_eq_true rfl) rfl rfl hc rfl (Nat.le_of_ble_eq_true rfl) (Nat.le_of_ble_eq_true rfl) (by rw [ml45]; exact Nat.le_of_ble_eq_true rfl)
set_option maxRecDepth 20000 in
theorem i46_16_c2 (hc : co_ h a = some 2) : ex_ X (d + 1) 46 16 [v0, v1, v2] [.ref a1, .int x0, .ref a, w0] h Q = ev_ X d 8 [.ref a, .int x0, .ref a1] h (fun r h' => ex_ X (d + 1) 46 19 [v0, v1, v2] (r.toList ++ [w0]) h' Q) := R_vir (show mx_at 46 16 = some (.invokevirtual 38, 3) by decide +kernel) (mx_clk ow46 cc6_38) (Nat.le_of_ble_eq_true rfl) rfl rfl hc rfl (Nat.le_of_ble_eq_true rfl) (Nat.le_of_ble_eq_true rfl) (by rw [ml8]; exact Nat.le_of_ble_eq_true rfl)
set_option maxRecDepth 20000 in
theorem i46_16_c4 (hc : co_ h a = some 4) : ex_ X (d + 1) 46 16 [v0, v1, v2] [.ref a1, .int x0, .ref a, w0] h Q = ev_ X d 45 [.ref a, .int x0, .ref a1] h (fun r h' => ex_ X (d + 1) 46 19 [v0, v1, v2] (r.toList ++ [w0]) h' Q) := R_vir (show mx_at 46 16 = some (.invokevirtual 38, 3) by decide +kernel) (mx_clk ow46 cc6_38) (Nat.le_of_ble_eq_true rfl) rfl rfl hc rfl (Nat.le_of_ble_eq_true rfl) (Nat.le_of_ble_eq_true rfl) (by rw [ml45]; exact Nat.le_of_ble_eq_true rfl)
set_option maxRecDepth 20000 in
theorem i46_16_c6 (hc : co_ h a = some 6) : ex_ X (d + 1) 46 16 [v0, v1, v2] [.ref a1, .int x0, .ref a, w0] h Q = ev_ X d 45 [.ref a, .int x0, .ref a1] h (fun r h' => ex_ X (d + 1) 46 19 [v0, v1, v2] (r.toList ++ [w0]) h' Q) := R_vir (show mx_at 46 16 = some (.invokevirtual 38, 3) by decide +kernel) (mx_clk ow46 cc6_38) (Nat.le_of_ble_eq_true rfl) rfl rfl hc rfl (Nat.le_of_ble_eq_true rfl) (Nat.le_of_ble_eq_true rfl) (by rw [ml45]; exact Nat.le_of_ble_eq_true rfl)
set_option maxRecDepth 20000 in
theorem i46_16_c8 (hc : co_ h a = some 8) : ex_ X (d + 1) 46 16 [v0, v1, v2] [.ref a1, .int x0, .ref a, w0] h Q = ev_ X d 45 [.ref a, .int x0, .ref a1] h (fun r h' => ex_ X (d + 1) 46 19 [v0, v1, v2] (r.toList ++ [w0]) h' Q) := R_vir (show mx_at 46 16 = some (.invokevirtual 38, 3) by decide +kernel) (mx_clk ow46 cc6_38) (Nat.le_of_ble_eq_true rfl) rfl rfl hc rfl (Nat.le_of_ble_eq_true rfl) (Nat.le_of_ble_eq_true rfl) (by rw [ml45]; exact Nat.le_of_ble_eq_true rfl)
set_option maxRecDepth 20000 in
theorem i46_16_c9 (hc : co_ h a = some 9) : ex_ X (d + 1) 46 16 [v0, v1, v2] [.ref a1, .int x0, .ref a, w0] h Q = ev_ X d 57 [.ref a, .int x0, .ref a1] h (fun r h' => ex_ X (d + 1) 46 19 [v0, v1, v2] (r.toList ++ [w0]) h' Q) := R_vir (show mx_at 46 16 = some (.invokevirtual 38, 3) by decide +kernel) (mx_clk ow46 cc6_38) (Nat.le_of_ble_eq_true rfl) rfl rfl hc rfl (Nat.le_of_ble_eq_true rfl) (Nat.le_of_ble_eq_true rfl) (by rw [ml57]; exact Nat.le_of_ble_eq_true rfl)
set_option maxRecDepth 20000 in
theorem i46_19 : ex_ X d 46 19 [v0, v1, v2] [.int y, .int x] h Q = ex_ X d 46 20 [v0, v1, v2] [.int (x ^^^ y)] h Q := ex_nx (show mx_at 46 19 = some (.ixor, 1) by decide +kernel) rfl
set_option maxRecDepth 20000 in
theorem i46_20 : ex_ X d 46 20 [v0, v1, v2] [.int x] h Q = Q (some (.int x)) h := ex_ret (show mx_at 46 20 = some (.ireturn, 1) by decide +kernel) (mx_retI rt46)
theorem i46_e : ev_ X d 46 [.ref a, .int x0, .ref a1] h Q = ex_ X d 46 0 [.ref a, .int x0, .ref a1] [] h Q := by rw [ev_, ml46]; rfl
-- 47 X7_init
set_option maxRecDepth 20000 in
theorem i47_0 : ex_ X d 47 0 [.ref a] [] h Q = ex_ X d 47 1 [.ref a] [.ref a] h Q := ex_nx (show mx_at 47 0 = some (.aload_n 0, 1) by decide +kernel) rfl
set_option maxRecDepth 20000 in
theorem i47_1 : ex_ X (d + 1) 47 1 [v0] [.ref a] h Q = ex_ X (d + 1) 47 4 [v0] [] h Q := R_obj (show mx_at 47 1 = some (.invokespecial 3, 3) by decide +kernel) (mx_clk ow47 cc7_3) (Nat.le_of_ble_eq_true rfl)
set_option maxRecDepth 20000 in
theorem i47_4 : ex_ X d 47 4 [.ref a] [] h Q = ex_ X d 47 5 [.ref a] [.ref a] h Q := ex_nx (show mx_at 47 4 = some (.aload_n 0, 1) by decide +kernel) rfl
set_option maxRecDepth 20000 in
theorem i47_5 : ex_ X d 47 5 [v0] [w0] h Q = ex_ X d 47 7 [v0] [.int 40, w0] h Q := R_bipush (show mx_at 47 5 = some (.bipush 40, 2) by decide +kernel) (by decide)
set_option maxRecDepth 20000 in
theorem i47_7 (hn : 0 ≤ x ∧ x.toNatClampNeg ≤ 1000) : ex_ X d 47 7 [v0] [.int x, w0] h Q = ex_ X d 47 9 [v0] [.ref h.length, w0] (h ++ [.inl (0, x.toNatClampNeg, .inl (fun _ => 0))]) Q := R_newa (kd := 0) (w := 2) (i := .newarray .int) (show mx_at 47 7 = some (.newarray .int, 2) by decide +kernel) (fun _ => rfl) hn
set_option maxRecDepth 20000 in
theorem i47_9 : ex_ X d 47 9 [v0] [w, .ref a] h Q = (pk_ 47 h a 0 w [(7, 0)] = true ∧ ex_ X d 47 12 [v0] [] (pf_ h a 0 w) Q) := R_putf (show mx_at 47 9 = some (.putfield 9, 3) by decide +kernel) (mx_fdo ow47 fd70009)
set_option maxRecDepth 20000 in
theorem i47_12 : ex_ X d 47 12 [v0] [] h Q = Q none h := ex_ret (show mx_at 47 12 = some (.return_, 1) by decide +kernel) (mx_retV rt47)
theorem i47_e : ev_ X d 47 [.ref a] h Q = ex_ X d 47 0 [.ref a] [] h Q := by rw [ev_, ml47]; rfl
-- 48 X7_isMissing
set_option maxRecDepth 20000 in
theorem i48_0 : ex_ X d 48 0 [.ref a] [] h Q = ex_ X d 48 1 [.ref a] [.ref a] h Q := ex_nx (show mx_at 48 0 = some (.aload_n 0, 1) by decide +kernel) rfl
set_option maxRecDepth 20000 in
theorem i48_1 : ex_ X d 48 1 [v0] [.ref a] h Q = (gk_ h a 1 [(7, 0)] = true ∧ ex_ X d 48 4 [v0] [gv_ h a 1] h Q) := R_getf (show mx_at 48 1 = some (.getfield 15, 3) by decide +kernel) (mx_fdo ow48 fd70015)
set_option maxRecDepth 20000 in
theorem i48_4 : ex_ X d 48 4 [v0] [.int x] h Q = if ¬ x = 0 then ex_ X d 48 11 [v0] [] h Q else ex_ X d 48 7 [v0] [] h Q := (R_br (show mx_at 48 4 = some (.ifCond .ne 7, 3) by decide +kernel) rfl rfl).trans mx_ite
set_option maxRecDepth 20000 in
theorem i48_7 : ex_ X d 48 7 [v0] [] h Q = ex_ X d 48 8 [v0] [.int 1] h Q := R_iconst (show mx_at 48 7 = some (.iconst 1, 1) by decide +kernel) (by decide)
set_option maxRecDepth 20000 in
theorem i48_8 : ex_ X d 48 8 [v0] [w0] h Q = ex_ X d 48 12 [v0] [w0] h Q := R_to (show mx_at 48 8 = some (.goto 4, 3) by decide +kernel) rfl rfl
set_option maxRecDepth 20000 in
theorem i48_11 : ex_ X d 48 11 [v0] [] h Q = ex_ X d 48 12 [v0] [.int 0] h Q := R_iconst (show mx_at 48 11 = some (.iconst 0, 1) by decide +kernel) (by decide)
set_option maxRecDepth 20000 in
theorem i48_12 (hx : x = 0 ∨ x = 1) : ex_ X d 48 12 [v0] [.int x] h Q = Q (some (.int x)) h := ex_ret (show mx_at 48 12 = some (.ireturn, 1) by decide +kernel) (mx_retZ hx rt48)
theorem i48_e : ev_ X d 48 [.ref a] h Q = ex_ X d 48 0 [.ref a] [] h Q := by rw [ev_, ml48]; rfl
-- 49 X7_renew
set_option maxRecDepth 20000 in
theorem i49_0 : ex_ X d 49 0 [.ref a, v1, v2] [] h Q = ex_ X d 49 1 [.ref a, v1, v2] [.ref a] h Q := ex_nx (show mx_at 49 0 = some (.aload_n 0, 1) by decide +kernel) rfl
set_option maxRecDepth 20000 in
theorem i49_1 : ex_ X d 49 1 [v0, .int x, v2] [w0] h Q = ex_ X d 49 2 [v0, .int x, v2] [.int x, w0] h Q := ex_nx (show mx_at 49 1 = some (.iload_n 1, 1) by decide +kernel) rfl
set_option maxRecDepth 20000 in
theorem i49_2 : ex_ X d 49 2 [v0, v1, v2] [w, .ref a] h Q = (pk_ 49 h a 1 w [(7, 0)] = true ∧ ex_ X d 49 5 [v0, v1, v2] [] (pf_ h a 1 w) Q) := R_putf (show mx_at 49 2 = some (.putfield 15, 3) by decide +kernel) (mx_fdo ow49 fd70015)
set_option maxRecDepth 20000 in
theorem i49_5 : ex_ X d 49 5 [.ref a, v1, v2] [] h Q = ex_ X d 49 6 [.ref a, v1, v2] [.ref a] h Q := ex_nx (show mx_at 49 5 = some (.aload_n 0, 1) by decide +kernel) rfl
set_option maxRecDepth 20000 in
theorem i49_6 : ex_ X d 49 6 [v0, v1, .int x] [w0] h Q = ex_ X d 49 7 [v0, v1, .int x] [.int x, w0] h Q := ex_nx (show mx_at 49 6 = some (.iload_n 2, 1) by decide +kernel) rfl
set_option maxRecDepth 20000 in
theorem i49_7 : ex_ X d 49 7 [v0, v1, v2] [w, .ref a] h Q = (pk_ 49 h a 2 w [(7, 0)] = true ∧ ex_ X d 49 10 [v0, v1, v2] [] (pf_ h a 2 w) Q) := R_putf (show mx_at 49 7 = some (.putfield 19, 3) by decide +kernel) (mx_fdo ow49 fd70019)
set_option maxRecDepth 20000 in
theorem i49_10 : ex_ X d 49 10 [.ref a, v1, v2] [] h Q = ex_ X d 49 11 [.ref a, v1, v2] [.ref a] h Q := ex_nx (show mx_at 49 10 = some (.aload_n 0, 1) by decide +kernel) rfl
set_option maxRecDepth 20000 in
theorem i49_11 : ex_ X d 49 11 [v0, v1, v2] [.ref a] h Q = (gk_ h a 0 [(7, 0)] = true ∧ ex_ X d 49 14 [v0, v1, v2] [gv_ h a 0] h Q) := R_getf (show mx_at 49 11 = some (.getfield 9, 3) by decide +kernel) (mx_fdo ow49 fd70009)
set_option maxRecDepth 20000 in
theorem i49_14 : ex_ X d 49 14 [v0, v1, v2] [w0] h Q = ex_ X d 49 15 [v0, v1, v2] [.int 0, w0] h Q := R_iconst (show mx_at 49 14 = some (.iconst 0, 1) by decide +kernel) (by decide)
set_option maxRecDepth 20000 in
theorem i49_15 : ex_ X (d + 1) 49 15 [v0, v1, v2] [.int x1, .ref a0] h Q = ev_ X d 217 [.ref a0, .int x1] h (fun r h' => ex_ X (d + 1) 49 18 [v0, v1, v2] (r.toList ++ []) h' Q) := R_stat (show mx_at 49 15 = some (.invokestatic 22, 3) by decide +kernel) (mx_clk ow49 cc7_22) (Nat.le_of_ble_eq_true rfl) rfl rfl (Nat.le_of_ble_eq_true rfl) ml217 (Nat.le_of_ble_eq_true rfl)
set_option maxRecDepth 20000 in
theorem i49_18 : ex_ X d 49 18 [v0, v1, v2] [] h Q = Q none h := ex_ret (show mx_at 49 18 = some (.return_, 1) by decide +kernel) (mx_retV rt49)
theorem i49_e : ev_ X d 49 [.ref a, .int x0, .int x1] h Q = ex_ X d 49 0 [.ref a, .int x0, .int x1] [] h Q := by rw [ev_, ml49]; rfl
-- 50 X7_write
set_option maxRecDepth 20000 in
theorem i50_0 : ex_ X d 50 0 [.ref a, v1, v2] [] h Q = ex_ X d 50 1 [.ref a, v1, v2] [.ref a] h Q := ex_nx (show mx_at 50 0 = some (.aload_n 0, 1) by decide +kernel) rfl
set_option maxRecDepth 20000 in
theorem i50_1 : ex_ X d 50 1 [v0, v1, v2] [.ref a] h Q = (gk_ h a 0 [(7, 0)] = true ∧ ex_ X d 50 4 [v0, v1, v2] [gv_ h a 0] h Q) := R_getf (show mx_at 50 1 = some (.getfield 9, 3) by decide +kernel) (mx_fdo ow50 fd70009)
set_option maxRecDepth 20000 in
theorem i50_4 : ex_ X d 50 4 [v0, .int x, v2] [w0] h Q = ex_ X d 50 5 [v0, .int x, v2] [.int x, w0] h Q := ex_nx (show mx_at 50 4 = some (.iload_n 1, 1) by decide +kernel) rfl
set_option maxRecDepth 20000 in
theorem i50_5 : ex_ X d 50 5 [.ref a, v1, v2] [w0, w1] h Q = ex_ X d 50 6 [.ref a, v1, v2] [.ref a, w0, w1] h Q := ex_nx (show mx_at 50 5 = some (.aload_n 0, 1) by decide +kernel) rfl
set_option maxRecDepth 20000 in
theorem i50_6 : ex_ X d 50 6 [v0, v1, v2] [.ref a, w0, w1] h Q = (gk_ h a 1 [(7, 0)] = true ∧ ex_ X d 50 9 [v0, v1, v2] [gv_ h a 1, w0, w1] h Q) := R_getf (show mx_at 50 6 = some (.getfield 15, 3) by decide +kernel) (mx_fdo ow50 fd70015)
set_option maxRecDepth 20000 in
theorem i50_9 : ex_ X d 50 9 [v0, v1, v2] [w0, w1, w2] h Q = ex_ X d 50 11 [v0, v1, v2] [.int 8, w0, w1, w2] h Q := R_bipush (show mx_at 50 9 = some (.bipush 8, 2) by decide +kernel) (by decide)
set_option maxRecDepth 20000 in
theorem i50_11 : ex_ X d 50 11 [v0, v1, v2] [.int y, .int x, w0, w1] h Q = if ¬ x = y then ex_ X d 50 19 [v0, v1, v2] [w0, w1] h Q else ex_ X d 50 14 [v0, v1, v2] [w0, w1] h Q := (R_br (show mx_at 50 11 = some (.if_icmp .ne 8, 3) by decide +kernel) rfl rfl).trans mx_ite
set_option maxRecDepth 20000 in
theorem i50_14 : ex_ X d 50 14 [v0, v1, .int x] [w0, w1] h Q = ex_ X d 50 15 [v0, v1, .int x] [.int x, w0, w1] h Q := ex_nx (show mx_at 50 14 = some (.iload_n 2, 1) by decide +kernel) rfl
set_option maxRecDepth 20000 in
theorem i50_15 : ex_ X d 50 15 [v0, v1, v2] [.int x, w0, w1] h Q = ex_ X d 50 16 [v0, v1, v2] [.int (x.toInt8.toInt32), w0, w1] h Q := ex_nx (show mx_at 50 15 = some (.i2b, 1) by decide +kernel) rfl
set_option maxRecDepth 20000 in
theorem i50_16 : ex_ X d 50 16 [v0, v1, v2] [w0, w1, w2] h Q = ex_ X d 50 34 [v0, v1, v2] [w0, w1, w2] h Q := R_to (show mx_at 50 16 = some (.goto 18, 3) by decide +kernel) rfl rfl
set_option maxRecDepth 20000 in
theorem i50_19 : ex_ X d 50 19 [.ref a, v1, v2] [w0, w1] h Q = ex_ X d 50 20 [.ref a, v1, v2] [.ref a, w0, w1] h Q := ex_nx (show mx_at 50 19 = some (.aload_n 0, 1) by decide +kernel) rfl
set_option maxRecDepth 20000 in
theorem i50_20 : ex_ X d 50 20 [v0, v1, v2] [.ref a, w0, w1] h Q = (gk_ h a 1 [(7, 0)] = true ∧ ex_ X d 50 23 [v0, v1, v2] [gv_ h a 1, w0, w1] h Q) := R_getf (show mx_at 50 20 = some (.getfield 15, 3) by decide +kernel) (mx_fdo ow50 fd70015)
set_option maxRecDepth 20000 in
theorem i50_23 : ex_ X d 50 23 [v0, v1, v2] [w0, w1, w2] h Q = ex_ X d 50 25 [v0, v1, v2] [.int 16, w0, w1, w2] h Q := R_bipush (show mx_at 50 23 = some (.bipush 16, 2) by decide +kernel) (by decide)
set_option maxRecDepth 20000 in
theorem i50_25 : ex_ X d 50 25 [v0, v1, v2] [.int y, .int x, w0, w1] h Q = if ¬ x = y then ex_ X d 50 33 [v0, v1, v2] [w0, w1] h Q else ex_ X d 50 28 [v0, v1, v2] [w0, w1] h Q := (R_br (show mx_at 50 25 = some (.if_icmp .ne 8, 3) by decide +kernel) rfl rfl).trans mx_ite
set_option maxRecDepth 20000 in
theorem i50_28 : ex_ X d 50 28 [v0, v1, .int x] [w0, w1] h Q = ex_ X d 50 29 [v0, v1, .int x] [.int x, w0, w1] h Q := ex_nx (show mx_at 50 28 = some (.iload_n 2, 1) by decide +kernel) rfl
set_option maxRecDepth 20000 in
theorem i50_29 : ex_ X d 50 29 [v0, v1, v2] [.int x, w0, w1] h Q = ex_ X d 50 30 [v0, v1, v2] [.int (x.toInt16.toInt32), w0, w1] h Q := ex_nx (show mx_at 50 29 = some (.i2s, 1) by decide +kernel) rfl
set_option maxRecDepth 20000 in
theorem i50_30 : ex_ X d 50 30 [v0, v1, v2] [w0, w1, w2] h Q = ex_ X d 50 34 [v0, v1, v2] [w0, w1, w2] h Q := R_to (show mx_at 50 30 = some (.goto 4, 3) by decide +kernel) rfl rfl
set_option maxRecDepth 20000 in
theorem i50_33 : ex_ X d 50 33 [v0, v1, .int x] [w0, w1] h Q = ex_ X d 50 34 [v0, v1, .int x] [.int x, w0, w1] h Q := ex_nx (show mx_at 50 33 = some (.iload_n 2, 1) by decide +kernel) rfl
set_option maxRecDepth 20000 in
theorem i50_34 : ex_ X d 50 34 [v0, v1, v2] [.int x, .int i, .ref a] h Q = (ik_ h a i = true ∧ ex_ X d 50 35 [v0, v1, v2] [] (is_ h a i x) Q) := R_iast (show mx_at 50 34 = some (.iastore, 1) by decide +kernel)
set_option maxRecDepth 20000 in
theorem i50_35 : ex_ X d 50 35 [v0, v1, v2] [] h Q = Q none h := ex_ret (show mx_at 50 35 = some (.return_, 1) by decide +kernel) (mx_retV rt50)
theorem i50_e : ev_ X d 50 [.ref a, .int x0, .int x1] h Q = ex_ X d 50 0 [.ref a, .int x0, .int x1] [] h Q := by rw [ev_, ml50]; rfl
-- 51 X7_holds
set_option maxRecDepth 20000 in
theorem i51_0 : ex_ X d 51 0 [v0, .int x, v2] [] h Q = ex_ X d 51 1 [v0, .int x, v2] [.int x] h Q := ex_nx (show mx_at 51 0 = some (.iload_n 1, 1) by decide +kernel) rfl
set_option maxRecDepth 20000 in
theorem i51_1 : ex_ X d 51 1 [v0, v1, v2] [.int x] h Q = if x < 0 then ex_ X d 51 30 [v0, v1, v2] [] h Q else ex_ X d 51 4 [v0, v1, v2] [] h Q := (R_br (show mx_at 51 1 = some (.ifCond .lt 29, 3) by decide +kernel) rfl rfl).trans mx_ite
set_option maxRecDepth 20000 in
theorem i51_4 : ex_ X d 51 4 [v0, v1, .int x] [] h Q = ex_ X d 51 5 [v0, v1, .int x] [.int x] h Q := ex_nx (show mx_at 51 4 = some (.iload_n 2, 1) by decide +kernel) rfl
set_option maxRecDepth 20000 in
theorem i51_5 : ex_ X d 51 5 [v0, v1, v2] [.int x] h Q = if x < 0 then ex_ X d 51 30 [v0, v1, v2] [] h Q else ex_ X d 51 8 [v0, v1, v2] [] h Q := (R_br (show mx_at 51 5 = some (.ifCond .lt 25, 3) by decide +kernel) rfl rfl).trans mx_ite
set_option maxRecDepth 20000 in
theorem i51_8 : ex_ X d 51 8 [v0, v1, .int x] [] h Q = ex_ X d 51 9 [v0, v1, .int x] [.int x] h Q := ex_nx (show mx_at 51 8 = some (.iload_n 2, 1) by decide +kernel) rfl
set_option maxRecDepth 20000 in
theorem i51_9 : ex_ X d 51 9 [.ref a, v1, v2] [w0] h Q = ex_ X d 51 10 [.ref a, v1, v2] [.ref a, w0] h Q := ex_nx (show mx_at 51 9 = some (.aload_n 0, 1) by decide +kernel) rfl
set_option maxRecDepth 20000 in
theorem i51_10 : ex_ X d 51 10 [v0, v1, v2] [.ref a, w0] h Q = (gk_ h a 2 [(7, 0)] = true ∧ ex_ X d 51 13 [v0, v1, v2] [gv_ h a 2, w0] h Q) := R_getf (show mx_at 51 10 = some (.getfield 19, 3) by decide +kernel) (mx_fdo ow51 fd70019)
set_option maxRecDepth 20000 in
theorem i51_13 : ex_ X d 51 13 [v0, v1, v2] [.int y, .int x] h Q = if y < x then ex_ X d 51 30 [v0, v1, v2] [] h Q else ex_ X d 51 16 [v0, v1, v2] [] h Q := (R_br (show mx_at 51 13 = some (.if_icmp .gt 17, 3) by decide +kernel) rfl rfl).trans mx_ite
set_option maxRecDepth 20000 in
theorem i51_16 : ex_ X d 51 16 [v0, .int x, v2] [] h Q = ex_ X d 51 17 [v0, .int x, v2] [.int x] h Q := ex_nx (show mx_at 51 16 = some (.iload_n 1, 1) by decide +kernel) rfl
set_option maxRecDepth 20000 in
theorem i51_17 : ex_ X d 51 17 [.ref a, v1, v2] [w0] h Q = ex_ X d 51 18 [.ref a, v1, v2] [.ref a, w0] h Q := ex_nx (show mx_at 51 17 = some (.aload_n 0, 1) by decide +kernel) rfl
set_option maxRecDepth 20000 in
theorem i51_18 : ex_ X d 51 18 [v0, v1, v2] [.ref a, w0] h Q = (gk_ h a 2 [(7, 0)] = true ∧ ex_ X d 51 21 [v0, v1, v2] [gv_ h a 2, w0] h Q) := R_getf (show mx_at 51 18 = some (.getfield 19, 3) by decide +kernel) (mx_fdo ow51 fd70019)
set_option maxRecDepth 20000 in
theorem i51_21 : ex_ X d 51 21 [v0, v1, .int x] [w0, w1] h Q = ex_ X d 51 22 [v0, v1, .int x] [.int x, w0, w1] h Q := ex_nx (show mx_at 51 21 = some (.iload_n 2, 1) by decide +kernel) rfl
set_option maxRecDepth 20000 in
theorem i51_22 : ex_ X d 51 22 [v0, v1, v2] [.int y, .int x, w0] h Q = ex_ X d 51 23 [v0, v1, v2] [.int (x - y), w0] h Q := ex_nx (show mx_at 51 22 = some (.isub, 1) by decide +kernel) rfl
set_option maxRecDepth 20000 in
theorem i51_23 : ex_ X d 51 23 [v0, v1, v2] [.int y, .int x] h Q = if y < x then ex_ X d 51 30 [v0, v1, v2] [] h Q else ex_ X d 51 26 [v0, v1, v2] [] h Q := (R_br (show mx_at 51 23 = some (.if_icmp .gt 7, 3) by decide +kernel) rfl rfl).trans mx_ite
set_option maxRecDepth 20000 in
theorem i51_26 : ex_ X d 51 26 [v0, v1, v2] [] h Q = ex_ X d 51 27 [v0, v1, v2] [.int 1] h Q := R_iconst (show mx_at 51 26 = some (.iconst 1, 1) by decide +kernel) (by decide)
set_option maxRecDepth 20000 in
theorem i51_27 : ex_ X d 51 27 [v0, v1, v2] [w0] h Q = ex_ X d 51 31 [v0, v1, v2] [w0] h Q := R_to (show mx_at 51 27 = some (.goto 4, 3) by decide +kernel) rfl rfl
set_option maxRecDepth 20000 in
theorem i51_30 : ex_ X d 51 30 [v0, v1, v2] [] h Q = ex_ X d 51 31 [v0, v1, v2] [.int 0] h Q := R_iconst (show mx_at 51 30 = some (.iconst 0, 1) by decide +kernel) (by decide)
set_option maxRecDepth 20000 in
theorem i51_31 (hx : x = 0 ∨ x = 1) : ex_ X d 51 31 [v0, v1, v2] [.int x] h Q = Q (some (.int x)) h := ex_ret (show mx_at 51 31 = some (.ireturn, 1) by decide +kernel) (mx_retZ hx rt51)
theorem i51_e : ev_ X d 51 [.ref a, .int x0, .int x1] h Q = ex_ X d 51 0 [.ref a, .int x0, .int x1] [] h Q := by rw [ev_, ml51]; rfl
-- 52 X8_init
set_option maxRecDepth 20000 in
theorem i52_0 : ex_ X d 52 0 [.ref a, v1, v2, v3, v4, v5] [] h Q = ex_ X d 52 1 [.ref a, v1, v2, v3, v4, v5] [.ref a] h Q := ex_nx (show mx_at 52 0 = some (.aload_n 0, 1) by decide +kernel) rfl
set_option maxRecDepth 20000 in
theorem i52_1 : ex_ X d 52 1 [v0, .int x, v2, v3, v4, v5] [w0] h Q = ex_ X d 52 2 [v0, .int x, v2, v3, v4, v5] [.int x, w0] h Q := ex_nx (show mx_at 52 1 = some (.iload_n 1, 1) by decide +kernel) rfl
set_option maxRecDepth 20000 in
theorem i52_2 : ex_ X d 52 2 [v0, v1, .int x, v3, v4, v5] [w0, w1] h Q = ex_ X d 52 3 [v0, v1, .int x, v3, v4, v5] [.int x, w0, w1] h Q := ex_nx (show mx_at 52 2 = some (.iload_n 2, 1) by decide +kernel) rfl
set_option maxRecDepth 20000 in
theorem i52_3 : ex_ X d 52 3 [v0, v1, v2, .int x, v4, v5] [w0, w1, w2] h Q = ex_ X d 52 4 [v0, v1, v2, .int x, v4, v5] [.int x, w0, w1, w2] h Q := ex_nx (show mx_at 52 3 = some (.iload_n 3, 1) by decide +kernel) rfl
set_option maxRecDepth 20000 in
theorem i52_4 : ex_ X d 52 4 [v0, v1, v2, v3, .int x, v5] [w0, w1, w2, w3] h Q = ex_ X d 52 6 [v0, v1, v2, v3, .int x, v5] [.int x, w0, w1, w2, w3] h Q := ex_nx (show mx_at 52 4 = some (.iload 4, 2) by decide +kernel) rfl
set_option maxRecDepth 20000 in
theorem i52_6 : ex_ X d 52 6 [v0, v1, v2, v3, v4, .int x] [w0, w1, w2, w3, w4] h Q = ex_ X d 52 8 [v0, v1, v2, v3, v4, .int x] [.int x, w0, w1, w2, w3, w4] h Q := ex_nx (show mx_at 52 6 = some (.iload 5, 2) by decide +kernel) rfl
set_option maxRecDepth 20000 in
theorem i52_8 : ex_ X (d + 1) 52 8 [v0, v1, v2, v3, v4, v5] [.int x4, .int x3, .int x2, .int x1, .int x0, .ref a] h Q = ev_ X d 40 [.ref a, .int x0, .int x1, .int x2, .int x3, .int x4] h (fun r h' => ex_ X (d + 1) 52 11 [v0, v1, v2, v3, v4, v5] (r.toList ++ []) h' Q) := R_ctor (show mx_at 52 8 = some (.invokespecial 1, 3) by decide +kernel) (mx_clk ow52 cc8_1) (by decide) (Nat.le_of_ble_eq_true rfl) rfl rfl (Nat.le_of_ble_eq_true rfl) ml40 (Nat.le_of_ble_eq_true rfl)
set_option maxRecDepth 20000 in
theorem i52_11 : ex_ X d 52 11 [v0, v1, v2, v3, v4, v5] [] h Q = Q none h := ex_ret (show mx_at 52 11 = some (.return_, 1) by decide +kernel) (mx_retV rt52)
theorem i52_e : ev_ X d 52 [.ref a, .int x0, .int x1, .int x2, .int x3, .int x4] h Q = ex_ X d 52 0 [.ref a, .int x0, .int x1, .int x2, .int x3, .int x4] [] h Q := by rw [ev_, ml52]; rfl
-- 53 X8_wishes
set_option maxRecDepth 20000 in
theorem i53_0 : ex_ X d 53 0 [.ref a, v1, v2] [] h Q = ex_ X d 53 1 [.ref a, v1, v2] [.ref a] h Q := ex_nx (show mx_at 53 0 = some (.aload_n 0, 1) by decide +kernel) rfl
set_option maxRecDepth 20000 in
theorem i53_1 : ex_ X d 53 1 [v0, .int x, v2] [w0] h Q = ex_ X d 53 2 [v0, .int x, v2] [.int x, w0] h Q := ex_nx (show mx_at 53 1 = some (.iload_n 1, 1) by decide +kernel) rfl
set_option maxRecDepth 20000 in
theorem i53_2 : ex_ X d 53 2 [v0, v1, .int x] [w0, w1] h Q = ex_ X d 53 3 [v0, v1, .int x] [.int x, w0, w1] h Q := ex_nx (show mx_at 53 2 = some (.iload_n 2, 1) by decide +kernel) rfl
set_option maxRecDepth 20000 in
theorem i53_3_c0 (hc : co_ h a = some 0) : ex_ X (d + 1) 53 3 [v0, v1, v2] [.int x1, .int x0, .ref a] h Q = ev_ X d 41 [.ref a, .int x0, .int x1] h (fun r h' => ex_ X (d + 1) 53 6 [v0, v1, v2] (r.toList ++ []) h' Q) := R_sup (show mx_at 53 3 = some (.invokespecial 7, 3) by decide +kernel) (mx_clk ow53 cc8_7) (Nat.le_of_ble_eq_true rfl) rfl rfl hc (Nat.le_of_ble_eq_true rfl) (Nat.le_of_ble_eq_true rfl) (by rw [ml41]; exact Nat.le_of_ble_eq_true rfl)
set_option maxRecDepth 20000 in
theorem i53_3_c1 (hc : co_ h a = some 1) : ex_ X (d + 1) 53 3 [v0, v1, v2] [.int x1, .int x0, .ref a] h Q = ev_ X d 41 [.ref a, .int x0, .int x1] h (fun r h' => ex_ X (d + 1) 53 6 [v0, v1, v2] (r.toList ++ []) h' Q) := R_sup (show mx_at 53 3 = some (.invokespecial 7, 3) by decide +kernel) (mx_clk ow53 cc8_7) (Nat.le_of_ble_eq_true rfl) rfl rfl hc (Nat.le_of_ble_eq_true rfl) (Nat.le_of_ble_eq_true rfl) (by rw [ml41]; exact Nat.le_of_ble_eq_true rfl)
set_option maxRecDepth 20000 in
theorem i53_3_c2 (hc : co_ h a = some 2) : ex_ X (d + 1) 53 3 [v0, v1, v2] [.int x1, .int x0, .ref a] h Q = ev_ X d 41 [.ref a, .int x0, .int x1] h (fun r h' => ex_ X (d + 1) 53 6 [v0, v1, v2] (r.toList ++ []) h' Q) := R_sup (show mx_at 53 3 = some (.invokespecial 7, 3) by decide +kernel) (mx_clk ow53 cc8_7) (Nat.le_of_ble_eq_true rfl) rfl rfl hc (Nat.le_of_ble_eq_true rfl) (Nat.le_of_ble_eq_true rfl) (by rw [ml41]; exact Nat.le_of_ble_eq_true rfl)
set_option maxRecDepth 20000 in
theorem i53_3_c4 (hc : co_ h a = some 4) : ex_ X (d + 1) 53 3 [v0, v1, v2] [.int x1, .int x0, .ref a] h Q = ev_ X d 41 [.ref a, .int x0, .int x1] h (fun r h' => ex_ X (d + 1) 53 6 [v0, v1, v2] (r.toList ++ []) h' Q) := R_sup (show mx_at 53 3 = some (.invokespecial 7, 3) by decide +kernel) (mx_clk ow53 cc8_7) (Nat.le_of_ble_eq_true rfl) rfl rfl hc (Nat.le_of_ble_eq_true rfl) (Nat.le_of_ble_eq_true rfl) (by rw [ml41]; exact Nat.le_of_ble_eq_true rfl)
set_option maxRecDepth 20000 in
theorem i53_3_c6 (hc : co_ h a = some 6) : ex_ X (d + 1) 53 3 [v0, v1, v2] [.int x1, .int x0, .ref a] h Q = ev_ X d 41 [.ref a, .int x0, .int x1] h (fun r h' => ex_ X (d + 1) 53 6 [v0, v1, v2] (r.toList ++ []) h' Q) := R_sup (show mx_at 53 3 = some (.invokespecial 7, 3) by decide +kernel) (mx_clk ow53 cc8_7) (Nat.le_of_ble_eq_true rfl) rfl rfl hc (Nat.le_of_ble_eq_true rfl) (Nat.le_of_ble_eq_true rfl) (by rw [ml41]; exact Nat.le_of_ble_eq_true rfl)
set_option maxRecDepth 20000 in
theorem i53_3_c8 (hc : co_ h a = some 8) : ex_ X (d + 1) 53 3 [v0, v1, v2] [.int x1, .int x0, .ref a] h Q = ev_ X d 41 [.ref a, .int x0, .int x1] h (fun r h' => ex_ X (d + 1) 53 6 [v0, v1, v2] (r.toList ++ []) h' Q) := R_sup (show mx_at 53 3 = some (.invokespecial 7, 3) by decide +kernel) (mx_clk ow53 cc8_7) (Nat.le_of_ble_eq_true rfl) rfl rfl hc (Nat.le_of_ble_eq_true rfl) (Nat.le_of_ble_eq_true rfl) (by rw [ml41]; exact Nat.le_of_ble_eq_true rfl)
set_option maxRecDepth 20000 in
theorem i53_3_c9 (hc : co_ h a = some 9) : ex_ X (d + 1) 53 3 [v0, v1, v2] [.int x1, .int x0, .ref a] h Q = ev_ X d 41 [.ref a, .int x0, .int x1] h (fun r h' => ex_ X (d + 1) 53 6 [v0, v1, v2] (r.toList ++ []) h' Q) := R_sup (show mx_at 53 3 = some (.invokespecial 7, 3) by decide +kernel) (mx_clk ow53 cc8_7) (Nat.le_of_ble_eq_true rfl) rfl rfl hc (Nat.le_of_ble_eq_true rfl) (Nat.le_of_ble_eq_true rfl) (by rw [ml41]; exact Nat.le_of_ble_eq_true rfl)
set_option maxRecDepth 20000 in
theorem i53_6 : ex_ X d 53 6 [.ref a, v1, v2] [w0] h Q = ex_ X d 53 7 [.ref a, v1, v2] [.ref a, w0] h Q := ex_nx (show mx_at 53 6 = some (.aload_n 0, 1) by decide +kernel) rfl
set_option maxRecDepth 20000 in
theorem i53_7 : ex_ X d 53 7 [v0, v1, v2] [.ref a, w0] h Q = (gk_ h a 2 [(2, 278), (8, 278)] = true ∧ ex_ X d 53 10 [v0, v1, v2] [gv_ h a 2, w0] h Q) := R_getf (show mx_at 53 7 = some (.getfield 11, 3) by decide +kernel) (mx_fdo ow53 fd80011)
set_option maxRecDepth 20000 in
theorem i53_10 : ex_ X d 53 10 [v0, v1, v2] [.int y, .int x] h Q = ex_ X d 53 11 [v0, v1, v2] [.int (x - y)] h Q := ex_nx (show mx_at 53 10 = some (.isub, 1) by decide +kernel) rfl
set_option maxRecDepth 20000 in
theorem i53_11 : ex_ X d 53 11 [v0, v1, v2] [.int x] h Q = Q (some (.int x)) h := ex_ret (show mx_at 53 11 = some (.ireturn, 1) by decide +kernel) (mx_retI rt53)
theorem i53_e : ev_ X d 53 [.ref a, .int x0, .int x1] h Q = ex_ X d 53 0 [.ref a, .int x0, .int x1] [] h Q := by rw [ev_, ml53]; rfl
-- 54 X8_asks
set_option maxRecDepth 20000 in
theorem i54_0 : ex_ X d 54 0 [v0, v1, .ref a] [] h Q = ex_ X d 54 1 [v0, v1, .ref a] [.ref a] h Q := ex_nx (show mx_at 54 0 = some (.aload_n 2, 1) by decide +kernel) rfl
set_option maxRecDepth 20000 in
theorem i54_1 : ex_ X d 54 1 [v0, v1, v2] [w0] h Q = ex_ X d 54 3 [v0, v1, v2] [.int 30, w0] h Q := R_bipush (show mx_at 54 1 = some (.bipush 30, 2) by decide +kernel) (by decide)
set_option maxRecDepth 20000 in
theorem i54_3 (hc : co_ h a = some 5) : ex_ X (d + 1) 54 3 [v0, v1, v2] [.int x0, .ref a] h Q = ev_ X d 36 [.ref a, .int x0] h (fun r h' => ex_ X (d + 1) 54 6 [v0, v1, v2] (r.toList ++ []) h' Q) := R_vir (show mx_at 54 3 = some (.invokevirtual 17, 3) by decide +kernel) (mx_clk ow54 cc8_17) (Nat.le_of_ble_eq_true rfl) rfl rfl hc rfl (Nat.le_of_ble_eq_true rfl) (Nat.le_of_ble_eq_true rfl) (by rw [ml36]; exact Nat.le_of_ble_eq_true rfl)
set_option maxRecDepth 20000 in
theorem i54_6 : ex_ X d 54 6 [v0, v1, v2] [.int x] h Q = ex_ X d 54 7 [v0, v1, v2] [] h Q := ex_nx (show mx_at 54 6 = some (.pop, 1) by decide +kernel) rfl
set_option maxRecDepth 20000 in
theorem i54_7 : ex_ X d 54 7 [.ref a, v1, v2] [] h Q = ex_ X d 54 8 [.ref a, v1, v2] [.ref a] h Q := ex_nx (show mx_at 54 7 = some (.aload_n 0, 1) by decide +kernel) rfl
set_option maxRecDepth 20000 in
theorem i54_8 : ex_ X d 54 8 [v0, .int x, v2] [w0] h Q = ex_ X d 54 9 [v0, .int x, v2] [.int x, w0] h Q := ex_nx (show mx_at 54 8 = some (.iload_n 1, 1) by decide +kernel) rfl
set_option maxRecDepth 20000 in
theorem i54_9 : ex_ X d 54 9 [v0, v1, .ref a] [w0, w1] h Q = ex_ X d 54 10 [v0, v1, .ref a] [.ref a, w0, w1] h Q := ex_nx (show mx_at 54 9 = some (.aload_n 2, 1) by decide +kernel) rfl
set_option maxRecDepth 20000 in
theorem i54_10_c0 (hc : co_ h a = some 0) : ex_ X (d + 1) 54 10 [v0, v1, v2] [.ref a1, .int x0, .ref a] h Q = ev_ X d 43 [.ref a, .int x0, .ref a1] h (fun r h' => ex_ X (d + 1) 54 13 [v0, v1, v2] (r.toList ++ []) h' Q) := R_sup (show mx_at 54 10 = some (.invokespecial 23, 3) by decide +kernel) (mx_clk ow54 cc8_23) (Nat.le_of_ble_eq_true rfl) rfl rfl hc (Nat.le_of_ble_eq_true rfl) (Nat.le_of_ble_eq_true rfl) (by rw [ml43]; exact Nat.le_of_ble_eq_true rfl)
set_option maxRecDepth 20000 in
theorem i54_10_c1 (hc : co_ h a = some 1) : ex_ X (d + 1) 54 10 [v0, v1, v2] [.ref a1, .int x0, .ref a] h Q = ev_ X d 43 [.ref a, .int x0, .ref a1] h (fun r h' => ex_ X (d + 1) 54 13 [v0, v1, v2] (r.toList ++ []) h' Q) := R_sup (show mx_at 54 10 = some (.invokespecial 23, 3) by decide +kernel) (mx_clk ow54 cc8_23) (Nat.le_of_ble_eq_true rfl) rfl rfl hc (Nat.le_of_ble_eq_true rfl) (Nat.le_of_ble_eq_true rfl) (by rw [ml43]; exact Nat.le_of_ble_eq_true rfl)
set_option maxRecDepth 20000 in
theorem i54_10_c2 (hc : co_ h a = some 2) : ex_ X (d + 1) 54 10 [v0, v1, v2] [.ref a1, .int x0, .ref a] h Q = ev_ X d 43 [.ref a, .int x0, .ref a1] h (fun r h' => ex_ X (d + 1) 54 13 [v0, v1, v2] (r.toList ++ []) h' Q) := R_sup (show mx_at 54 10 = some (.invokespecial 23, 3) by decide +kernel) (mx_clk ow54 cc8_23) (Nat.le_of_ble_eq_true rfl) rfl rfl hc (Nat.le_of_ble_eq_true rfl) (Nat.le_of_ble_eq_true rfl) (by rw [ml43]; exact Nat.le_of_ble_eq_true rfl)
set_option maxRecDepth 20000 in
theorem i54_10_c4 (hc : co_ h a = some 4) : ex_ X (d + 1) 54 10 [v0, v1, v2] [.ref a1, .int x0, .ref a] h Q = ev_ X d 43 [.ref a, .int x0, .ref a1] h (fun r h' => ex_ X (d + 1) 54 13 [v0, v1, v2] (r.toList ++ []) h' Q) := R_sup (show mx_at 54 10 = some (.invokespecial 23, 3) by decide +kernel) (mx_clk ow54 cc8_23) (Nat.le_of_ble_eq_true rfl) rfl rfl hc (Nat.le_of_ble_eq_true rfl) (Nat.le_of_ble_eq_true rfl) (by rw [ml43]; exact Nat.le_of_ble_eq_true rfl)
set_option maxRecDepth 20000 in
theorem i54_10_c6 (hc : co_ h a = some 6) : ex_ X (d + 1) 54 10 [v0, v1, v2] [.ref a1, .int x0, .ref a] h Q = ev_ X d 43 [.ref a, .int x0, .ref a1] h (fun r h' => ex_ X (d + 1) 54 13 [v0, v1, v2] (r.toList ++ []) h' Q) := R_sup (show mx_at 54 10 = some (.invokespecial 23, 3) by decide +kernel) (mx_clk ow54 cc8_23) (Nat.le_of_ble_eq_true rfl) rfl rfl hc (Nat.le_of_ble_eq_true rfl) (Nat.le_of_ble_eq_true rfl) (by rw [ml43]; exact Nat.le_of_ble_eq_true rfl)
set_option maxRecDepth 20000 in
theorem i54_10_c8 (hc : co_ h a = some 8) : ex_ X (d + 1) 54 10 [v0, v1, v2] [.ref a1, .int x0, .ref a] h Q = ev_ X d 43 [.ref a, .int x0, .ref a1] h (fun r h' => ex_ X (d + 1) 54 13 [v0, v1, v2] (r.toList ++ []) h' Q) := R_sup (show mx_at 54 10 = some (.invokespecial 23, 3) by decide +kernel) (mx_clk ow54 cc8_23) (Nat.le_of_ble_eq_true rfl) rfl rfl hc (Nat.le_of_ble_eq_true rfl) (Nat.le_of_ble_eq_true rfl) (by rw [ml43]; exact Nat.le_of_ble_eq_true rfl)
set_option maxRecDepth 20000 in
theorem i54_10_c9 (hc : co_ h a = some 9) : ex_ X (d + 1) 54 10 [v0, v1, v2] [.ref a1, .int x0, .ref a] h Q = ev_ X d 43 [.ref a, .int x0, .ref a1] h (fun r h' => ex_ X (d + 1) 54 13 [v0, v1, v2] (r.toList ++ []) h' Q) := R_sup (show mx_at 54 10 = some (.invokespecial 23, 3) by decide +kernel) (mx_clk ow54 cc8_23) (Nat.le_of_ble_eq_true rfl) rfl rfl hc (Nat.le_of_ble_eq_true rfl) (Nat.le_of_ble_eq_true rfl) (by rw [ml43]; exact Nat.le_of_ble_eq_true rfl)
set_option maxRecDepth 20000 in
theorem i54_13 : ex_ X d 54 13 [v0, v1, v2] [w0] h Q = ex_ X d 54 14 [v0, v1, v2] [.int 3, w0] h Q := R_iconst (show mx_at 54 13 = some (.iconst 3, 1) by decide +kernel) (by decide)
set_option maxRecDepth 20000 in
theorem i54_14 : ex_ X d 54 14 [v0, v1, v2] [.int y, .int x] h Q = ex_ X d 54 15 [v0, v1, v2] [.int (x * y)] h Q := ex_nx (show mx_at 54 14 = some (.imul, 1) by decide +kernel) rfl
set_option maxRecDepth 20000 in
theorem i54_15 : ex_ X d 54 15 [v0, v1, v2] [.int x] h Q = Q (some (.int x)) h := ex_ret (show mx_at 54 15 = some (.ireturn, 1) by decide +kernel) (mx_retI rt54)
theorem i54_e : ev_ X d 54 [.ref a, .int x0, .ref a1] h Q = ex_ X d 54 0 [.ref a, .int x0, .ref a1] [] h Q := by rw [ev_, ml54]; rfl
-- 55 X9_init
set_option maxRecDepth 20000 in
theorem i55_0 : ex_ X d 55 0 [.ref a, v1, v2, v3, v4, v5] [] h Q = ex_ X d 55 1 [.ref a, v1, v2, v3, v4, v5] [.ref a] h Q := ex_nx (show mx_at 55 0 = some (.aload_n 0, 1) by decide +kernel) rfl
set_option maxRecDepth 20000 in
theorem i55_1 : ex_ X d 55 1 [v0, .int x, v2, v3, v4, v5] [w0] h Q = ex_ X d 55 2 [v0, .int x, v2, v3, v4, v5] [.int x, w0] h Q := ex_nx (show mx_at 55 1 = some (.iload_n 1, 1) by decide +kernel) rfl
set_option maxRecDepth 20000 in
theorem i55_2 : ex_ X d 55 2 [v0, v1, .int x, v3, v4, v5] [w0, w1] h Q = ex_ X d 55 3 [v0, v1, .int x, v3, v4, v5] [.int x, w0, w1] h Q := ex_nx (show mx_at 55 2 = some (.iload_n 2, 1) by decide +kernel) rfl
set_option maxRecDepth 20000 in
theorem i55_3 : ex_ X d 55 3 [v0, v1, v2, .int x, v4, v5] [w0, w1, w2] h Q = ex_ X d 55 4 [v0, v1, v2, .int x, v4, v5] [.int x, w0, w1, w2] h Q := ex_nx (show mx_at 55 3 = some (.iload_n 3, 1) by decide +kernel) rfl
set_option maxRecDepth 20000 in
theorem i55_4 : ex_ X d 55 4 [v0, v1, v2, v3, .int x, v5] [w0, w1, w2, w3] h Q = ex_ X d 55 6 [v0, v1, v2, v3, .int x, v5] [.int x, w0, w1, w2, w3] h Q := ex_nx (show mx_at 55 4 = some (.iload 4, 2) by decide +kernel) rfl
set_option maxRecDepth 20000 in
theorem i55_6 : ex_ X d 55 6 [v0, v1, v2, v3, v4, .int x] [w0, w1, w2, w3, w4] h Q = ex_ X d 55 8 [v0, v1, v2, v3, v4, .int x] [.int x, w0, w1, w2, w3, w4] h Q := ex_nx (show mx_at 55 6 = some (.iload 5, 2) by decide +kernel) rfl
set_option maxRecDepth 20000 in
theorem i55_8 : ex_ X (d + 1) 55 8 [v0, v1, v2, v3, v4, v5] [.int x4, .int x3, .int x2, .int x1, .int x0, .ref a] h Q = ev_ X d 3 [.ref a, .int x0, .int x1, .int x2, .int x3, .int x4] h (fun r h' => ex_ X (d + 1) 55 11 [v0, v1, v2, v3, v4, v5] (r.toList ++ []) h' Q) := R_ctor (show mx_at 55 8 = some (.invokespecial 1, 3) by decide +kernel) (mx_clk ow55 cc9_1) (by decide) (Nat.le_of_ble_eq_true rfl) rfl rfl (Nat.le_of_ble_eq_true rfl) ml3 (Nat.le_of_ble_eq_true rfl)
set_option maxRecDepth 20000 in
theorem i55_11 : ex_ X d 55 11 [v0, v1, v2, v3, v4, v5] [] h Q = Q none h := ex_ret (show mx_at 55 11 = some (.return_, 1) by decide +kernel) (mx_retV rt55)
theorem i55_e : ev_ X d 55 [.ref a, .int x0, .int x1, .int x2, .int x3, .int x4] h Q = ex_ X d 55 0 [.ref a, .int x0, .int x1, .int x2, .int x3, .int x4] [] h Q := by rw [ev_, ml55]; rfl
-- 56 X9_wishes
set_option maxRecDepth 20000 in
theorem i56_0 : ex_ X d 56 0 [.ref a, v1, v2] [] h Q = ex_ X d 56 1 [.ref a, v1, v2] [.ref a] h Q := ex_nx (show mx_at 56 0 = some (.aload_n 0, 1) by decide +kernel) rfl
set_option maxRecDepth 20000 in
theorem i56_1 : ex_ X d 56 1 [v0, .int x, v2] [w0] h Q = ex_ X d 56 2 [v0, .int x, v2] [.int x, w0] h Q := ex_nx (show mx_at 56 1 = some (.iload_n 1, 1) by decide +kernel) rfl
set_option maxRecDepth 20000 in
theorem i56_2 : ex_ X d 56 2 [v0, v1, .int x] [w0, w1] h Q = ex_ X d 56 3 [v0, v1, .int x] [.int x, w0, w1] h Q := ex_nx (show mx_at 56 2 = some (.iload_n 2, 1) by decide +kernel) rfl
set_option maxRecDepth 20000 in
theorem i56_3_c0 (hc : co_ h a = some 0) : ex_ X (d + 1) 56 3 [v0, v1, v2] [.int x1, .int x0, .ref a] h Q = ev_ X d 4 [.ref a, .int x0, .int x1] h (fun r h' => ex_ X (d + 1) 56 6 [v0, v1, v2] (r.toList ++ []) h' Q) := R_sup (show mx_at 56 3 = some (.invokespecial 7, 3) by decide +kernel) (mx_clk ow56 cc9_7) (Nat.le_of_ble_eq_true rfl) rfl rfl hc (Nat.le_of_ble_eq_true rfl) (Nat.le_of_ble_eq_true rfl) (by rw [ml4]; exact Nat.le_of_ble_eq_true rfl)
set_option maxRecDepth 20000 in
theorem i56_3_c1 (hc : co_ h a = some 1) : ex_ X (d + 1) 56 3 [v0, v1, v2] [.int x1, .int x0, .ref a] h Q = ev_ X d 4 [.ref a, .int x0, .int x1] h (fun r h' => ex_ X (d + 1) 56 6 [v0, v1, v2] (r.toList ++ []) h' Q) := R_sup (show mx_at 56 3 = some (.invokespecial 7, 3) by decide +kernel) (mx_clk ow56 cc9_7) (Nat.le_of_ble_eq_true rfl) rfl rfl hc (Nat.le_of_ble_eq_true rfl) (Nat.le_of_ble_eq_true rfl) (by rw [ml4]; exact Nat.le_of_ble_eq_true rfl)
set_option maxRecDepth 20000 in
theorem i56_3_c2 (hc : co_ h a = some 2) : ex_ X (d + 1) 56 3 [v0, v1, v2] [.int x1, .int x0, .ref a] h Q = ev_ X d 4 [.ref a, .int x0, .int x1] h (fun r h' => ex_ X (d + 1) 56 6 [v0, v1, v2] (r.toList ++ []) h' Q) := R_sup (show mx_at 56 3 = some (.invokespecial 7, 3) by decide +kernel) (mx_clk ow56 cc9_7) (Nat.le_of_ble_eq_true rfl) rfl rfl hc (Nat.le_of_ble_eq_true rfl) (Nat.le_of_ble_eq_true rfl) (by rw [ml4]; exact Nat.le_of_ble_eq_true rfl)
set_option maxRecDepth 20000 in
theorem i56_3_c4 (hc : co_ h a = some 4) : ex_ X (d + 1) 56 3 [v0, v1, v2] [.int x1, .int x0, .ref a] h Q = ev_ X d 4 [.ref a, .int x0, .int x1] h (fun r h' => ex_ X (d + 1) 56 6 [v0, v1, v2] (r.toList ++ []) h' Q) := R_sup (show mx_at 56 3 = some (.invokespecial 7, 3) by decide +kernel) (mx_clk ow56 cc9_7) (Nat.le_of_ble_eq_true rfl) rfl rfl hc (Nat.le_of_ble_eq_true rfl) (Nat.le_of_ble_eq_true rfl) (by rw [ml4]; exact Nat.le_of_ble_eq_true rfl)
set_option maxRecDepth 20000 in
theorem i56_3_c6 (hc : co_ h a = some 6) : ex_ X (d + 1) 56 3 [v0, v1, v2] [.int x1, .int x0, .ref a] h Q = ev_ X d 4 [.ref a, .int x0, .int x1] h (fun r h' => ex_ X (d + 1) 56 6 [v0, v1, v2] (r.toList ++ []) h' Q) := R_sup (show mx_at 56 3 = some (.invokespecial 7, 3) by decide +kernel) (mx_clk ow56 cc9_7) (Nat.le_of_ble_eq_true rfl) rfl rfl hc (Nat.le_of_ble_eq_true rfl) (Nat.le_of_ble_eq_true rfl) (by rw [ml4]; exact Nat.le_of_ble_eq_true rfl)
set_option maxRecDepth 20000 in
theorem i56_3_c8 (hc : co_ h a = some 8) : ex_ X (d + 1) 56 3 [v0, v1, v2] [.int x1, .int x0, .ref a] h Q = ev_ X d 4 [.ref a, .int x0, .int x1] h (fun r h' => ex_ X (d + 1) 56 6 [v0, v1, v2] (r.toList ++ []) h' Q) := R_sup (show mx_at 56 3 = some (.invokespecial 7, 3) by decide +kernel) (mx_clk ow56 cc9_7) (Nat.le_of_ble_eq_true rfl) rfl rfl hc (Nat.le_of_ble_eq_true rfl) (Nat.le_of_ble_eq_true rfl) (by rw [ml4]; exact Nat.le_of_ble_eq_true rfl)
set_option maxRecDepth 20000 in
theorem i56_3_c9 (hc : co_ h a = some 9) : ex_ X (d + 1) 56 3 [v0, v1, v2] [.int x1, .int x0, .ref a] h Q = ev_ X d 4 [.ref a, .int x0, .int x1] h (fun r h' => ex_ X (d + 1) 56 6 [v0, v1, v2] (r.toList ++ []) h' Q) := R_sup (show mx_at 56 3 = some (.invokespecial 7, 3) by decide +kernel) (mx_clk ow56 cc9_7) (Nat.le_of_ble_eq_true rfl) rfl rfl hc (Nat.le_of_ble_eq_true rfl) (Nat.le_of_ble_eq_true rfl) (by rw [ml4]; exact Nat.le_of_ble_eq_true rfl)
set_option maxRecDepth 20000 in
theorem i56_6 : ex_ X d 56 6 [.ref a, v1, v2] [w0] h Q = ex_ X d 56 7 [.ref a, v1, v2] [.ref a, w0] h Q := ex_nx (show mx_at 56 6 = some (.aload_n 0, 1) by decide +kernel) rfl
set_option maxRecDepth 20000 in
theorem i56_7 : ex_ X d 56 7 [v0, v1, v2] [.ref a, w0] h Q = (gk_ h a 3 [(9, 291)] = true ∧ ex_ X d 56 10 [v0, v1, v2] [gv_ h a 3, w0] h Q) := R_getf (show mx_at 56 7 = some (.getfield 11, 3) by decide +kernel) (mx_fdo ow56 fd90011)
set_option maxRecDepth 20000 in
theorem i56_10 : ex_ X (d + 1) 56 10 [v0, v1, v2] [.int y, .int x] h Q = ex_ X (d + 1) 56 13 [v0, v1, v2] [.int (if x < y then y else x)] h Q := R_max (show mx_at 56 10 = some (.invokestatic 17, 3) by decide +kernel) (mx_clk ow56 cc9_17) (Nat.le_of_ble_eq_true rfl)
set_option maxRecDepth 20000 in
theorem i56_13 : ex_ X d 56 13 [v0, v1, v2] [.int x] h Q = Q (some (.int x)) h := ex_ret (show mx_at 56 13 = some (.ireturn, 1) by decide +kernel) (mx_retI rt56)
theorem i56_e : ev_ X d 56 [.ref a, .int x0, .int x1] h Q = ex_ X d 56 0 [.ref a, .int x0, .int x1] [] h Q := by rw [ev_, ml56]; rfl
-- 57 X9_holds
set_option maxRecDepth 20000 in
theorem i57_0 : ex_ X d 57 0 [v0, v1, .ref a] [] h Q = ex_ X d 57 1 [v0, v1, .ref a] [.ref a] h Q := ex_nx (show mx_at 57 0 = some (.aload_n 2, 1) by decide +kernel) rfl
set_option maxRecDepth 20000 in
theorem i57_1 : ex_ X d 57 1 [v0, v1, v2] [w0] h Q = ex_ X d 57 3 [v0, v1, v2] [.int 60, w0] h Q := R_bipush (show mx_at 57 1 = some (.bipush 60, 2) by decide +kernel) (by decide)
set_option maxRecDepth 20000 in
theorem i57_3 (hc : co_ h a = some 5) : ex_ X (d + 1) 57 3 [v0, v1, v2] [.int x0, .ref a] h Q = ev_ X d 36 [.ref a, .int x0] h (fun r h' => ex_ X (d + 1) 57 6 [v0, v1, v2] (r.toList ++ []) h' Q) := R_vir (show mx_at 57 3 = some (.invokevirtual 22, 3) by decide +kernel) (mx_clk ow57 cc9_22) (Nat.le_of_ble_eq_true rfl) rfl rfl hc rfl (Nat.le_of_ble_eq_true rfl) (Nat.le_of_ble_eq_true rfl) (by rw [ml36]; exact Nat.le_of_ble_eq_true rfl)
set_option maxRecDepth 20000 in
theorem i57_6 : ex_ X d 57 6 [v0, v1, v2] [.int x] h Q = ex_ X d 57 7 [v0, v1, v2] [] h Q := ex_nx (show mx_at 57 6 = some (.pop, 1) by decide +kernel) rfl
set_option maxRecDepth 20000 in
theorem i57_7 : ex_ X d 57 7 [.ref a, v1, v2] [] h Q = ex_ X d 57 8 [.ref a, v1, v2] [.ref a] h Q := ex_nx (show mx_at 57 7 = some (.aload_n 0, 1) by decide +kernel) rfl
set_option maxRecDepth 20000 in
theorem i57_8 : ex_ X d 57 8 [v0, .int x, v2] [w0] h Q = ex_ X d 57 9 [v0, .int x, v2] [.int x, w0] h Q := ex_nx (show mx_at 57 8 = some (.iload_n 1, 1) by decide +kernel) rfl
set_option maxRecDepth 20000 in
theorem i57_9 : ex_ X d 57 9 [v0, v1, .ref a] [w0, w1] h Q = ex_ X d 57 10 [v0, v1, .ref a] [.ref a, w0, w1] h Q := ex_nx (show mx_at 57 9 = some (.aload_n 2, 1) by decide +kernel) rfl
set_option maxRecDepth 20000 in
theorem i57_10_c0 (hc : co_ h a = some 0) : ex_ X (d + 1) 57 10 [v0, v1, v2] [.ref a1, .int x0, .ref a] h Q = ev_ X d 45 [.ref a, .int x0, .ref a1] h (fun r h' => ex_ X (d + 1) 57 13 [v0, v1, v2] (r.toList ++ []) h' Q) := R_sup (show mx_at 57 10 = some (.invokespecial 28, 3) by decide +kernel) (mx_clk ow57 cc9_28) (Nat.le_of_ble_eq_true rfl) rfl rfl hc (Nat.le_of_ble_eq_true rfl) (Nat.le_of_ble_eq_true rfl) (by rw [ml45]; exact Nat.le_of_ble_eq_true rfl)
set_option maxRecDepth 20000 in
theorem i57_10_c1 (hc : co_ h a = some 1) : ex_ X (d + 1) 57 10 [v0, v1, v2] [.ref a1, .int x0, .ref a] h Q = ev_ X d 45 [.ref a, .int x0, .ref a1] h (fun r h' => ex_ X (d + 1) 57 13 [v0, v1, v2] (r.toList ++ []) h' Q) := R_sup (show mx_at 57 10 = some (.invokespecial 28, 3) by decide +kernel) (mx_clk ow57 cc9_28) (Nat.le_of_ble_eq_true rfl) rfl rfl hc (Nat.le_of_ble_eq_true rfl) (Nat.le_of_ble_eq_true rfl) (by rw [ml45]; exact Nat.le_of_ble_eq_true rfl)
set_option maxRecDepth 20000 in
theorem i57_10_c2 (hc : co_ h a = some 2) : ex_ X (d + 1) 57 10 [v0, v1, v2] [.ref a1, .int x0, .ref a] h Q = ev_ X d 45 [.ref a, .int x0, .ref a1] h (fun r h' => ex_ X (d + 1) 57 13 [v0, v1, v2] (r.toList ++ []) h' Q) := R_sup (show mx_at 57 10 = some (.invokespecial 28, 3) by decide +kernel) (mx_clk ow57 cc9_28) (Nat.le_of_ble_eq_true rfl) rfl rfl hc (Nat.le_of_ble_eq_true rfl) (Nat.le_of_ble_eq_true rfl) (by rw [ml45]; exact Nat.le_of_ble_eq_true rfl)
set_option maxRecDepth 20000 in
theorem i57_10_c4 (hc : co_ h a = some 4) : ex_ X (d + 1) 57 10 [v0, v1, v2] [.ref a1, .int x0, .ref a] h Q = ev_ X d 45 [.ref a, .int x0, .ref a1] h (fun r h' => ex_ X (d + 1) 57 13 [v0, v1, v2] (r.toList ++ []) h' Q) := R_sup (show mx_at 57 10 = some (.invokespecial 28, 3) by decide +kernel) (mx_clk ow57 cc9_28) (Nat.le_of_ble_eq_true rfl) rfl rfl hc (Nat.le_of_ble_eq_true rfl) (Nat.le_of_ble_eq_true rfl) (by rw [ml45]; exact Nat.le_of_ble_eq_true rfl)
set_option maxRecDepth 20000 in
theorem i57_10_c6 (hc : co_ h a = some 6) : ex_ X (d + 1) 57 10 [v0, v1, v2] [.ref a1, .int x0, .ref a] h Q = ev_ X d 45 [.ref a, .int x0, .ref a1] h (fun r h' => ex_ X (d + 1) 57 13 [v0, v1, v2] (r.toList ++ []) h' Q) := R_sup (show mx_at 57 10 = some (.invokespecial 28, 3) by decide +kernel) (mx_clk ow57 cc9_28) (Nat.le_of_ble_eq_true rfl) rfl rfl hc (Nat.le_of_ble_eq_true rfl) (Nat.le_of_ble_eq_true rfl) (by rw [ml45]; exact Nat.le_of_ble_eq_true rfl)
set_option maxRecDepth 20000 in
theorem i57_10_c8 (hc : co_ h a = some 8) : ex_ X (d + 1) 57 10 [v0, v1, v2] [.ref a1, .int x0, .ref a] h Q = ev_ X d 45 [.ref a, .int x0, .ref a1] h (fun r h' => ex_ X (d + 1) 57 13 [v0, v1, v2] (r.toList ++ []) h' Q) := R_sup (show mx_at 57 10 = some (.invokespecial 28, 3) by decide +kernel) (mx_clk ow57 cc9_28) (Nat.le_of_ble_eq_true rfl) rfl rfl hc (Nat.le_of_ble_eq_true rfl) (Nat.le_of_ble_eq_true rfl) (by rw [ml45]; exact Nat.le_of_ble_eq_true rfl)
set_option maxRecDepth 20000 in
theorem i57_10_c9 (hc : co_ h a = some 9) : ex_ X (d + 1) 57 10 [v0, v1, v2] [.ref a1, .int x0, .ref a] h Q = ev_ X d 45 [.ref a, .int x0, .ref a1] h (fun r h' => ex_ X (d + 1) 57 13 [v0, v1, v2] (r.toList ++ []) h' Q) := R_sup (show mx_at 57 10 = some (.invokespecial 28, 3) by decide +kernel) (mx_clk ow57 cc9_28) (Nat.le_of_ble_eq_true rfl) rfl rfl hc (Nat.le_of_ble_eq_true rfl) (Nat.le_of_ble_eq_true rfl) (by rw [ml45]; exact Nat.le_of_ble_eq_true rfl)
set_option maxRecDepth 20000 in
theorem i57_13 : ex_ X d 57 13 [.ref a, v1, v2] [w0] h Q = ex_ X d 57 14 [.ref a, v1, v2] [.ref a, w0] h Q := ex_nx (show mx_at 57 13 = some (.aload_n 0, 1) by decide +kernel) rfl
set_option maxRecDepth 20000 in
theorem i57_14 : ex_ X d 57 14 [v0, v1, v2] [.ref a, w0] h Q = (gk_ h a 0 [(9, 273)] = true ∧ ex_ X d 57 17 [v0, v1, v2] [gv_ h a 0, w0] h Q) := R_getf (show mx_at 57 14 = some (.getfield 32, 3) by decide +kernel) (mx_fdo ow57 fd90032)
set_option maxRecDepth 20000 in
theorem i57_17 : ex_ X d 57 17 [v0, v1, v2] [.int y, .int x] h Q = ex_ X d 57 18 [v0, v1, v2] [.int (x ^^^ y)] h Q := ex_nx (show mx_at 57 17 = some (.ixor, 1) by decide +kernel) rfl
set_option maxRecDepth 20000 in
theorem i57_18 : ex_ X d 57 18 [v0, v1, v2] [.int x] h Q = Q (some (.int x)) h := ex_ret (show mx_at 57 18 = some (.ireturn, 1) by decide +kernel) (mx_retI rt57)
theorem i57_e : ev_ X d 57 [.ref a, .int x0, .ref a1] h Q = ex_ X d 57 0 [.ref a, .int x0, .ref a1] [] h Q := by rw [ev_, ml57]; rfl
-- 58 X10_init
set_option maxRecDepth 20000 in
theorem i58_0 : ex_ X d 58 0 [.ref a, v1, v2] [] h Q = ex_ X d 58 1 [.ref a, v1, v2] [.ref a] h Q := ex_nx (show mx_at 58 0 = some (.aload_n 0, 1) by decide +kernel) rfl
set_option maxRecDepth 20000 in
theorem i58_0f0 : ex_ X d 58 0 [.float 2, v1, v2] [] h Q = ex_ X d 58 1 [.float 2, v1, v2] [.float 2] h Q := ex_nx (show mx_at 58 0 = some (.aload_n 0, 1) by decide +kernel) rfl
set_option maxRecDepth 20000 in
theorem i58_0f1 : ex_ X d 58 0 [.float 3, v1, v2] [] h Q = ex_ X d 58 1 [.float 3, v1, v2] [.float 3] h Q := ex_nx (show mx_at 58 0 = some (.aload_n 0, 1) by decide +kernel) rfl
set_option maxRecDepth 20000 in
theorem i58_0f2 : ex_ X d 58 0 [.float 4, v1, v2] [] h Q = ex_ X d 58 1 [.float 4, v1, v2] [.float 4] h Q := ex_nx (show mx_at 58 0 = some (.aload_n 0, 1) by decide +kernel) rfl
set_option maxRecDepth 20000 in
theorem i58_0f3 : ex_ X d 58 0 [.float 5, v1, v2] [] h Q = ex_ X d 58 1 [.float 5, v1, v2] [.float 5] h Q := ex_nx (show mx_at 58 0 = some (.aload_n 0, 1) by decide +kernel) rfl
set_option maxRecDepth 20000 in
theorem i58_1 : ex_ X (d + 1) 58 1 [v0, v1, v2] [.ref a] h Q = ex_ X (d + 1) 58 4 [v0, v1, v2] [] h Q := R_obj (show mx_at 58 1 = some (.invokespecial 1, 3) by decide +kernel) (mx_clk ow58 cc10_1) (Nat.le_of_ble_eq_true rfl)
set_option maxRecDepth 20000 in
theorem i58_4 : ex_ X d 58 4 [.ref a, v1, v2] [] h Q = ex_ X d 58 5 [.ref a, v1, v2] [.ref a] h Q := ex_nx (show mx_at 58 4 = some (.aload_n 0, 1) by decide +kernel) rfl
set_option maxRecDepth 20000 in
theorem i58_4f0 : ex_ X d 58 4 [.float 2, v1, v2] [] h Q = ex_ X d 58 5 [.float 2, v1, v2] [.float 2] h Q := ex_nx (show mx_at 58 4 = some (.aload_n 0, 1) by decide +kernel) rfl
set_option maxRecDepth 20000 in
theorem i58_4f1 : ex_ X d 58 4 [.float 3, v1, v2] [] h Q = ex_ X d 58 5 [.float 3, v1, v2] [.float 3] h Q := ex_nx (show mx_at 58 4 = some (.aload_n 0, 1) by decide +kernel) rfl
set_option maxRecDepth 20000 in
theorem i58_4f2 : ex_ X d 58 4 [.float 4, v1, v2] [] h Q = ex_ X d 58 5 [.float 4, v1, v2] [.float 4] h Q := ex_nx (show mx_at 58 4 = some (.aload_n 0, 1) by decide +kernel) rfl
set_option maxRecDepth 20000 in
theorem i58_4f3 : ex_ X d 58 4 [.float 5, v1, v2] [] h Q = ex_ X d 58 5 [.float 5, v1, v2] [.float 5] h Q := ex_nx (show mx_at 58 4 = some (.aload_n 0, 1) by decide +kernel) rfl
set_option maxRecDepth 20000 in
theorem i58_5 : ex_ X d 58 5 [v0, v1, v2] [w0] h Q = ex_ X d 58 6 [v0, v1, v2] [.int 4, w0] h Q := R_iconst (show mx_at 58 5 = some (.iconst 4, 1) by decide +kernel) (by decide)
set_option maxRecDepth 20000 in
theorem i58_6 : ex_ X d 58 6 [v0, v1, v2] [w, .ref a] h Q = (pk_ 58 h a 8 w [(10, 0)] = true ∧ ex_ X d 58 9 [v0, v1, v2] [] (pf_ h a 8 w) Q) := R_putf (show mx_at 58 6 = some (.putfield 9, 3) by decide +kernel) (mx_fdo ow58 fd100009)
set_option maxRecDepth 20000 in
theorem i58_9 : ex_ X d 58 9 [.ref a, v1, v2] [] h Q = ex_ X d 58 10 [.ref a, v1, v2] [.ref a] h Q := ex_nx (show mx_at 58 9 = some (.aload_n 0, 1) by decide +kernel) rfl
set_option maxRecDepth 20000 in
theorem i58_9f0 : ex_ X d 58 9 [.float 2, v1, v2] [] h Q = ex_ X d 58 10 [.float 2, v1, v2] [.float 2] h Q := ex_nx (show mx_at 58 9 = some (.aload_n 0, 1) by decide +kernel) rfl
set_option maxRecDepth 20000 in
theorem i58_9f1 : ex_ X d 58 9 [.float 3, v1, v2] [] h Q = ex_ X d 58 10 [.float 3, v1, v2] [.float 3] h Q := ex_nx (show mx_at 58 9 = some (.aload_n 0, 1) by decide +kernel) rfl
set_option maxRecDepth 20000 in
theorem i58_9f2 : ex_ X d 58 9 [.float 4, v1, v2] [] h Q = ex_ X d 58 10 [.float 4, v1, v2] [.float 4] h Q := ex_nx (show mx_at 58 9 = some (.aload_n 0, 1) by decide +kernel) rfl
set_option maxRecDepth 20000 in
theorem i58_9f3 : ex_ X d 58 9 [.float 5, v1, v2] [] h Q = ex_ X d 58 10 [.float 5, v1, v2] [.float 5] h Q := ex_nx (show mx_at 58 9 = some (.aload_n 0, 1) by decide +kernel) rfl
set_option maxRecDepth 20000 in
theorem i58_10 : ex_ X d 58 10 [v0, v1, v2] [w0] h Q = ex_ X d 58 11 [v0, v1, v2] [.int (-1), w0] h Q := R_iconst (show mx_at 58 10 = some (.iconst (-1), 1) by decide +kernel) (by decide)
set_option maxRecDepth 20000 in
theorem i58_11 : ex_ X d 58 11 [v0, v1, v2] [w, .ref a] h Q = (pk_ 58 h a 9 w [(10, 0)] = true ∧ ex_ X d 58 14 [v0, v1, v2] [] (pf_ h a 9 w) Q) := R_putf (show mx_at 58 11 = some (.putfield 13, 3) by decide +kernel) (mx_fdo ow58 fd100013)
set_option maxRecDepth 20000 in
theorem i58_14 : ex_ X d 58 14 [.ref a, v1, v2] [] h Q = ex_ X d 58 15 [.ref a, v1, v2] [.ref a] h Q := ex_nx (show mx_at 58 14 = some (.aload_n 0, 1) by decide +kernel) rfl
set_option maxRecDepth 20000 in
theorem i58_14f0 : ex_ X d 58 14 [.float 2, v1, v2] [] h Q = ex_ X d 58 15 [.float 2, v1, v2] [.float 2] h Q := ex_nx (show mx_at 58 14 = some (.aload_n 0, 1) by decide +kernel) rfl
set_option maxRecDepth 20000 in
theorem i58_14f1 : ex_ X d 58 14 [.float 3, v1, v2] [] h Q = ex_ X d 58 15 [.float 3, v1, v2] [.float 3] h Q := ex_nx (show mx_at 58 14 = some (.aload_n 0, 1) by decide +kernel) rfl
set_option maxRecDepth 20000 in
theorem i58_14f2 : ex_ X d 58 14 [.float 4, v1, v2] [] h Q = ex_ X d 58 15 [.float 4, v1, v2] [.float 4] h Q := ex_nx (show mx_at 58 14 = some (.aload_n 0, 1) by decide +kernel) rfl
set_option maxRecDepth 20000 in
theorem i58_14f3 : ex_ X d 58 14 [.float 5, v1, v2] [] h Q = ex_ X d 58 15 [.float 5, v1, v2] [.float 5] h Q := ex_nx (show mx_at 58 14 = some (.aload_n 0, 1) by decide +kernel) rfl
set_option maxRecDepth 20000 in
theorem i58_15 : ex_ X d 58 15 [v0, .ref a, v2] [w0] h Q = ex_ X d 58 16 [v0, .ref a, v2] [.ref a, w0] h Q := ex_nx (show mx_at 58 15 = some (.aload_n 1, 1) by decide +kernel) rfl
set_option maxRecDepth 20000 in
theorem i58_15f0 : ex_ X d 58 15 [v0, .float 2, v2] [w0] h Q = ex_ X d 58 16 [v0, .float 2, v2] [.float 2, w0] h Q := ex_nx (show mx_at 58 15 = some (.aload_n 1, 1) by decide +kernel) rfl
set_option maxRecDepth 20000 in
theorem i58_15f1 : ex_ X d 58 15 [v0, .float 3, v2] [w0] h Q = ex_ X d 58 16 [v0, .float 3, v2] [.float 3, w0] h Q := ex_nx (show mx_at 58 15 = some (.aload_n 1, 1) by decide +kernel) rfl
set_option maxRecDepth 20000 in
theorem i58_15f2 : ex_ X d 58 15 [v0, .float 4, v2] [w0] h Q = ex_ X d 58 16 [v0, .float 4, v2] [.float 4, w0] h Q := ex_nx (show mx_at 58 15 = some (.aload_n 1, 1) by decide +kernel) rfl
set_option maxRecDepth 20000 in
theorem i58_15f3 : ex_ X d 58 15 [v0, .float 5, v2] [w0] h Q = ex_ X d 58 16 [v0, .float 5, v2] [.float 5, w0] h Q := ex_nx (show mx_at 58 15 = some (.aload_n 1, 1) by decide +kernel) rfl
set_option maxRecDepth 20000 in
theorem i58_16 : ex_ X d 58 16 [v0, v1, v2] [w, .ref a] h Q = (pk_ 58 h a 0 w [(10, 0)] = true ∧ ex_ X d 58 19 [v0, v1, v2] [] (pf_ h a 0 w) Q) := R_putf (show mx_at 58 16 = some (.putfield 16, 3) by decide +kernel) (mx_fdo ow58 fd100016)
set_option maxRecDepth 20000 in
theorem i58_19 : ex_ X d 58 19 [.ref a, v1, v2] [] h Q = ex_ X d 58 20 [.ref a, v1, v2] [.ref a] h Q := ex_nx (show mx_at 58 19 = some (.aload_n 0, 1) by decide +kernel) rfl
set_option maxRecDepth 20000 in
theorem i58_19f0 : ex_ X d 58 19 [.float 2, v1, v2] [] h Q = ex_ X d 58 20 [.float 2, v1, v2] [.float 2] h Q := ex_nx (show mx_at 58 19 = some (.aload_n 0, 1) by decide +kernel) rfl
set_option maxRecDepth 20000 in
theorem i58_19f1 : ex_ X d 58 19 [.float 3, v1, v2] [] h Q = ex_ X d 58 20 [.float 3, v1, v2] [.float 3] h Q := ex_nx (show mx_at 58 19 = some (.aload_n 0, 1) by decide +kernel) rfl
set_option maxRecDepth 20000 in
theorem i58_19f2 : ex_ X d 58 19 [.float 4, v1, v2] [] h Q = ex_ X d 58 20 [.float 4, v1, v2] [.float 4] h Q := ex_nx (show mx_at 58 19 = some (.aload_n 0, 1) by decide +kernel) rfl
set_option maxRecDepth 20000 in
theorem i58_19f3 : ex_ X d 58 19 [.float 5, v1, v2] [] h Q = ex_ X d 58 20 [.float 5, v1, v2] [.float 5] h Q := ex_nx (show mx_at 58 19 = some (.aload_n 0, 1) by decide +kernel) rfl
set_option maxRecDepth 20000 in
theorem i58_20 : ex_ X d 58 20 [v0, .ref a, v2] [w0] h Q = ex_ X d 58 21 [v0, .ref a, v2] [.ref a, w0] h Q := ex_nx (show mx_at 58 20 = some (.aload_n 1, 1) by decide +kernel) rfl
set_option maxRecDepth 20000 in
theorem i58_20f0 : ex_ X d 58 20 [v0, .float 2, v2] [w0] h Q = ex_ X d 58 21 [v0, .float 2, v2] [.float 2, w0] h Q := ex_nx (show mx_at 58 20 = some (.aload_n 1, 1) by decide +kernel) rfl
set_option maxRecDepth 20000 in
theorem i58_20f1 : ex_ X d 58 20 [v0, .float 3, v2] [w0] h Q = ex_ X d 58 21 [v0, .float 3, v2] [.float 3, w0] h Q := ex_nx (show mx_at 58 20 = some (.aload_n 1, 1) by decide +kernel) rfl
set_option maxRecDepth 20000 in
theorem i58_20f2 : ex_ X d 58 20 [v0, .float 4, v2] [w0] h Q = ex_ X d 58 21 [v0, .float 4, v2] [.float 4, w0] h Q := ex_nx (show mx_at 58 20 = some (.aload_n 1, 1) by decide +kernel) rfl
set_option maxRecDepth 20000 in
theorem i58_20f3 : ex_ X d 58 20 [v0, .float 5, v2] [w0] h Q = ex_ X d 58 21 [v0, .float 5, v2] [.float 5, w0] h Q := ex_nx (show mx_at 58 20 = some (.aload_n 1, 1) by decide +kernel) rfl
set_option maxRecDepth 20000 in
theorem i58_21 : ex_ X d 58 21 [v0, v1, v2] [.ref a, w0] h Q = (gk_ h a 1 [(5, 0)] = true ∧ ex_ X d 58 24 [v0, v1, v2] [gv_ h a 1, w0] h Q) := R_getf (show mx_at 58 21 = some (.getfield 20, 3) by decide +kernel) (mx_fdo ow58 fd100020)
set_option maxRecDepth 20000 in
theorem i58_24 : ex_ X d 58 24 [v0, v1, v2] [w, .ref a] h Q = (pk_ 58 h a 1 w [(10, 0)] = true ∧ ex_ X d 58 27 [v0, v1, v2] [] (pf_ h a 1 w) Q) := R_putf (show mx_at 58 24 = some (.putfield 23, 3) by decide +kernel) (mx_fdo ow58 fd100023)
set_option maxRecDepth 20000 in
theorem i58_27 : ex_ X d 58 27 [.ref a, v1, v2] [] h Q = ex_ X d 58 28 [.ref a, v1, v2] [.ref a] h Q := ex_nx (show mx_at 58 27 = some (.aload_n 0, 1) by decide +kernel) rfl
set_option maxRecDepth 20000 in
theorem i58_27f0 : ex_ X d 58 27 [.float 2, v1, v2] [] h Q = ex_ X d 58 28 [.float 2, v1, v2] [.float 2] h Q := ex_nx (show mx_at 58 27 = some (.aload_n 0, 1) by decide +kernel) rfl
set_option maxRecDepth 20000 in
theorem i58_27f1 : ex_ X d 58 27 [.float 3, v1, v2] [] h Q = ex_ X d 58 28 [.float 3, v1, v2] [.float 3] h Q := ex_nx (show mx_at 58 27 = some (.aload_n 0, 1) by decide +kernel) rfl
set_option maxRecDepth 20000 in
theorem i58_27f2 : ex_ X d 58 27 [.float 4, v1, v2] [] h Q = ex_ X d 58 28 [.float 4, v1, v2] [.float 4] h Q := ex_nx (show mx_at 58 27 = some (.aload_n 0, 1) by decide +kernel) rfl
set_option maxRecDepth 20000 in
theorem i58_27f3 : ex_ X d 58 27 [.float 5, v1, v2] [] h Q = ex_ X d 58 28 [.float 5, v1, v2] [.float 5] h Q := ex_nx (show mx_at 58 27 = some (.aload_n 0, 1) by decide +kernel) rfl
set_option maxRecDepth 20000 in
theorem i58_28 : ex_ X d 58 28 [v0, v1, .int x] [w0] h Q = ex_ X d 58 29 [v0, v1, .int x] [.int x, w0] h Q := ex_nx (show mx_at 58 28 = some (.iload_n 2, 1) by decide +kernel) rfl
set_option maxRecDepth 20000 in
theorem i58_29 : ex_ X d 58 29 [v0, v1, v2] [.int x, w0] h Q = if ¬ x = 0 then ex_ X d 58 37 [v0, v1, v2] [w0] h Q else ex_ X d 58 32 [v0, v1, v2] [w0] h Q := (R_br (show mx_at 58 29 = some (.ifCond .ne 8, 3) by decide +kernel) rfl rfl).trans mx_ite
set_option maxRecDepth 20000 in
theorem i58_32 : ex_ X d 58 32 [v0, v1, v2] [w0] h Q = ex_ X d 58 34 [v0, v1, v2] [.float 2, w0] h Q := R_ldcS (show mx_at 58 32 = some (.ldc 26, 2) by decide +kernel) (by decide +kernel)
set_option maxRecDepth 20000 in
theorem i58_34 : ex_ X d 58 34 [v0, v1, v2] [w0, w1] h Q = ex_ X d 58 39 [v0, v1, v2] [w0, w1] h Q := R_to (show mx_at 58 34 = some (.goto 5, 3) by decide +kernel) rfl rfl
set_option maxRecDepth 20000 in
theorem i58_37 : ex_ X d 58 37 [v0, v1, v2] [w0] h Q = ex_ X d 58 39 [v0, v1, v2] [.float 3, w0] h Q := R_ldcS (show mx_at 58 37 = some (.ldc 28, 2) by decide +kernel) (by decide +kernel)
set_option maxRecDepth 20000 in
theorem i58_39 : ex_ X d 58 39 [v0, v1, v2] [w, .ref a] h Q = (pk_ 58 h a 2 w [(10, 0)] = true ∧ ex_ X d 58 42 [v0, v1, v2] [] (pf_ h a 2 w) Q) := R_putf (show mx_at 58 39 = some (.putfield 30, 3) by decide +kernel) (mx_fdo ow58 fd100030)
set_option maxRecDepth 20000 in
theorem i58_42 : ex_ X d 58 42 [.ref a, v1, v2] [] h Q = ex_ X d 58 43 [.ref a, v1, v2] [.ref a] h Q := ex_nx (show mx_at 58 42 = some (.aload_n 0, 1) by decide +kernel) rfl
set_option maxRecDepth 20000 in
theorem i58_42f0 : ex_ X d 58 42 [.float 2, v1, v2] [] h Q = ex_ X d 58 43 [.float 2, v1, v2] [.float 2] h Q := ex_nx (show mx_at 58 42 = some (.aload_n 0, 1) by decide +kernel) rfl
set_option maxRecDepth 20000 in
theorem i58_42f1 : ex_ X d 58 42 [.float 3, v1, v2] [] h Q = ex_ X d 58 43 [.float 3, v1, v2] [.float 3] h Q := ex_nx (show mx_at 58 42 = some (.aload_n 0, 1) by decide +kernel) rfl
set_option maxRecDepth 20000 in
theorem i58_42f2 : ex_ X d 58 42 [.float 4, v1, v2] [] h Q = ex_ X d 58 43 [.float 4, v1, v2] [.float 4] h Q := ex_nx (show mx_at 58 42 = some (.aload_n 0, 1) by decide +kernel) rfl
set_option maxRecDepth 20000 in
theorem i58_42f3 : ex_ X d 58 42 [.float 5, v1, v2] [] h Q = ex_ X d 58 43 [.float 5, v1, v2] [.float 5] h Q := ex_nx (show mx_at 58 42 = some (.aload_n 0, 1) by decide +kernel) rfl
set_option maxRecDepth 20000 in
theorem i58_43 : ex_ X d 58 43 [v0, v1, v2] [w0] h Q = ex_ X d 58 44 [v0, v1, v2] [.int 4, w0] h Q := R_iconst (show mx_at 58 43 = some (.iconst 4, 1) by decide +kernel) (by decide)
set_option maxRecDepth 20000 in
theorem i58_44 : ex_ X d 58 44 [.ref a, v1, v2] [w0, w1] h Q = ex_ X d 58 45 [.ref a, v1, v2] [.ref a, w0, w1] h Q := ex_nx (show mx_at 58 44 = some (.aload_n 0, 1) by decide +kernel) rfl
set_option maxRecDepth 20000 in
theorem i58_44f0 : ex_ X d 58 44 [.float 2, v1, v2] [w0, w1] h Q = ex_ X d 58 45 [.float 2, v1, v2] [.float 2, w0, w1] h Q := ex_nx (show mx_at 58 44 = some (.aload_n 0, 1) by decide +kernel) rfl
set_option maxRecDepth 20000 in
theorem i58_44f1 : ex_ X d 58 44 [.float 3, v1, v2] [w0, w1] h Q = ex_ X d 58 45 [.float 3, v1, v2] [.float 3, w0, w1] h Q := ex_nx (show mx_at 58 44 = some (.aload_n 0, 1) by decide +kernel) rfl
set_option maxRecDepth 20000 in
theorem i58_44f2 : ex_ X d 58 44 [.float 4, v1, v2] [w0, w1] h Q = ex_ X d 58 45 [.float 4, v1, v2] [.float 4, w0, w1] h Q := ex_nx (show mx_at 58 44 = some (.aload_n 0, 1) by decide +kernel) rfl
set_option maxRecDepth 20000 in
theorem i58_44f3 : ex_ X d 58 44 [.float 5, v1, v2] [w0, w1] h Q = ex_ X d 58 45 [.float 5, v1, v2] [.float 5, w0, w1] h Q := ex_nx (show mx_at 58 44 = some (.aload_n 0, 1) by decide +kernel) rfl
set_option maxRecDepth 20000 in
theorem i58_45 : ex_ X d 58 45 [v0, v1, v2] [.ref a, w0, w1] h Q = (gk_ h a 1 [(10, 0)] = true ∧ ex_ X d 58 48 [v0, v1, v2] [gv_ h a 1, w0, w1] h Q) := R_getf (show mx_at 58 45 = some (.getfield 23, 3) by decide +kernel) (mx_fdo ow58 fd100023)
set_option maxRecDepth 20000 in
theorem i58_48 : ex_ X d 58 48 [v0, v1, v2] [.int y, .int x, w0] h Q = ex_ X d 58 49 [v0, v1, v2] [.int (x + y), w0] h Q := ex_nx (show mx_at 58 48 = some (.iadd, 1) by decide +kernel) rfl
set_option maxRecDepth 20000 in
theorem i58_49 (hn : 0 ≤ x ∧ x.toNatClampNeg ≤ 1000) : ex_ X d 58 49 [v0, v1, v2] [.int x, w0] h Q = ex_ X d 58 51 [v0, v1, v2] [.ref h.length, w0] (h ++ [.inl (0, x.toNatClampNeg, .inl (fun _ => 0))]) Q := R_newa (kd := 0) (w := 2) (i := .newarray .int) (show mx_at 58 49 = some (.newarray .int, 2) by decide +kernel) (fun _ => rfl) hn
set_option maxRecDepth 20000 in
theorem i58_51 : ex_ X d 58 51 [v0, v1, v2] [w, .ref a] h Q = (pk_ 58 h a 4 w [(10, 0)] = true ∧ ex_ X d 58 54 [v0, v1, v2] [] (pf_ h a 4 w) Q) := R_putf (show mx_at 58 51 = some (.putfield 34, 3) by decide +kernel) (mx_fdo ow58 fd100034)
set_option maxRecDepth 20000 in
theorem i58_54 : ex_ X d 58 54 [.ref a, v1, v2] [] h Q = ex_ X d 58 55 [.ref a, v1, v2] [.ref a] h Q := ex_nx (show mx_at 58 54 = some (.aload_n 0, 1) by decide +kernel) rfl
set_option maxRecDepth 20000 in
theorem i58_54f0 : ex_ X d 58 54 [.float 2, v1, v2] [] h Q = ex_ X d 58 55 [.float 2, v1, v2] [.float 2] h Q := ex_nx (show mx_at 58 54 = some (.aload_n 0, 1) by decide +kernel) rfl
set_option maxRecDepth 20000 in
theorem i58_54f1 : ex_ X d 58 54 [.float 3, v1, v2] [] h Q = ex_ X d 58 55 [.float 3, v1, v2] [.float 3] h Q := ex_nx (show mx_at 58 54 = some (.aload_n 0, 1) by decide +kernel) rfl
set_option maxRecDepth 20000 in
theorem i58_54f2 : ex_ X d 58 54 [.float 4, v1, v2] [] h Q = ex_ X d 58 55 [.float 4, v1, v2] [.float 4] h Q := ex_nx (show mx_at 58 54 = some (.aload_n 0, 1) by decide +kernel) rfl
set_option maxRecDepth 20000 in
theorem i58_54f3 : ex_ X d 58 54 [.float 5, v1, v2] [] h Q = ex_ X d 58 55 [.float 5, v1, v2] [.float 5] h Q := ex_nx (show mx_at 58 54 = some (.aload_n 0, 1) by decide +kernel) rfl
set_option maxRecDepth 20000 in
theorem i58_55 : ex_ X d 58 55 [v0, v1, v2] [w0] h Q = ex_ X d 58 56 [v0, v1, v2] [.int 4, w0] h Q := R_iconst (show mx_at 58 55 = some (.iconst 4, 1) by decide +kernel) (by decide)
set_option maxRecDepth 20000 in
theorem i58_56 : ex_ X d 58 56 [.ref a, v1, v2] [w0, w1] h Q = ex_ X d 58 57 [.ref a, v1, v2] [.ref a, w0, w1] h Q := ex_nx (show mx_at 58 56 = some (.aload_n 0, 1) by decide +kernel) rfl
set_option maxRecDepth 20000 in
theorem i58_56f0 : ex_ X d 58 56 [.float 2, v1, v2] [w0, w1] h Q = ex_ X d 58 57 [.float 2, v1, v2] [.float 2, w0, w1] h Q := ex_nx (show mx_at 58 56 = some (.aload_n 0, 1) by decide +kernel) rfl
set_option maxRecDepth 20000 in
theorem i58_56f1 : ex_ X d 58 56 [.float 3, v1, v2] [w0, w1] h Q = ex_ X d 58 57 [.float 3, v1, v2] [.float 3, w0, w1] h Q := ex_nx (show mx_at 58 56 = some (.aload_n 0, 1) by decide +kernel) rfl
set_option maxRecDepth 20000 in
theorem i58_56f2 : ex_ X d 58 56 [.float 4, v1, v2] [w0, w1] h Q = ex_ X d 58 57 [.float 4, v1, v2] [.float 4, w0, w1] h Q := ex_nx (show mx_at 58 56 = some (.aload_n 0, 1) by decide +kernel) rfl
set_option maxRecDepth 20000 in
theorem i58_56f3 : ex_ X d 58 56 [.float 5, v1, v2] [w0, w1] h Q = ex_ X d 58 57 [.float 5, v1, v2] [.float 5, w0, w1] h Q := ex_nx (show mx_at 58 56 = some (.aload_n 0, 1) by decide +kernel) rfl
set_option maxRecDepth 20000 in
theorem i58_57 : ex_ X d 58 57 [v0, v1, v2] [.ref a, w0, w1] h Q = (gk_ h a 1 [(10, 0)] = true ∧ ex_ X d 58 60 [v0, v1, v2] [gv_ h a 1, w0, w1] h Q) := R_getf (show mx_at 58 57 = some (.getfield 23, 3) by decide +kernel) (mx_fdo ow58 fd100023)
set_option maxRecDepth 20000 in
theorem i58_60 : ex_ X d 58 60 [v0, v1, v2] [.int y, .int x, w0] h Q = ex_ X d 58 61 [v0, v1, v2] [.int (x + y), w0] h Q := ex_nx (show mx_at 58 60 = some (.iadd, 1) by decide +kernel) rfl
set_option maxRecDepth 20000 in
theorem i58_61 (hn : 0 ≤ x ∧ x.toNatClampNeg ≤ 1000) : ex_ X d 58 61 [v0, v1, v2] [.int x, w0] h Q = ex_ X d 58 63 [v0, v1, v2] [.ref h.length, w0] (h ++ [.inl (0, x.toNatClampNeg, .inl (fun _ => 0))]) Q := R_newa (kd := 0) (w := 2) (i := .newarray .int) (show mx_at 58 61 = some (.newarray .int, 2) by decide +kernel) (fun _ => rfl) hn
set_option maxRecDepth 20000 in
theorem i58_63 : ex_ X d 58 63 [v0, v1, v2] [w, .ref a] h Q = (pk_ 58 h a 5 w [(10, 0)] = true ∧ ex_ X d 58 66 [v0, v1, v2] [] (pf_ h a 5 w) Q) := R_putf (show mx_at 58 63 = some (.putfield 38, 3) by decide +kernel) (mx_fdo ow58 fd100038)
set_option maxRecDepth 20000 in
theorem i58_66 : ex_ X d 58 66 [.ref a, v1, v2] [] h Q = ex_ X d 58 67 [.ref a, v1, v2] [.ref a] h Q := ex_nx (show mx_at 58 66 = some (.aload_n 0, 1) by decide +kernel) rfl
set_option maxRecDepth 20000 in
theorem i58_66f0 : ex_ X d 58 66 [.float 2, v1, v2] [] h Q = ex_ X d 58 67 [.float 2, v1, v2] [.float 2] h Q := ex_nx (show mx_at 58 66 = some (.aload_n 0, 1) by decide +kernel) rfl
set_option maxRecDepth 20000 in
theorem i58_66f1 : ex_ X d 58 66 [.float 3, v1, v2] [] h Q = ex_ X d 58 67 [.float 3, v1, v2] [.float 3] h Q := ex_nx (show mx_at 58 66 = some (.aload_n 0, 1) by decide +kernel) rfl
set_option maxRecDepth 20000 in
theorem i58_66f2 : ex_ X d 58 66 [.float 4, v1, v2] [] h Q = ex_ X d 58 67 [.float 4, v1, v2] [.float 4] h Q := ex_nx (show mx_at 58 66 = some (.aload_n 0, 1) by decide +kernel) rfl
set_option maxRecDepth 20000 in
theorem i58_66f3 : ex_ X d 58 66 [.float 5, v1, v2] [] h Q = ex_ X d 58 67 [.float 5, v1, v2] [.float 5] h Q := ex_nx (show mx_at 58 66 = some (.aload_n 0, 1) by decide +kernel) rfl
set_option maxRecDepth 20000 in
theorem i58_67 : ex_ X d 58 67 [v0, v1, v2] [w0] h Q = ex_ X d 58 68 [v0, v1, v2] [.int 4, w0] h Q := R_iconst (show mx_at 58 67 = some (.iconst 4, 1) by decide +kernel) (by decide)
set_option maxRecDepth 20000 in
theorem i58_68 : ex_ X d 58 68 [.ref a, v1, v2] [w0, w1] h Q = ex_ X d 58 69 [.ref a, v1, v2] [.ref a, w0, w1] h Q := ex_nx (show mx_at 58 68 = some (.aload_n 0, 1) by decide +kernel) rfl
set_option maxRecDepth 20000 in
theorem i58_68f0 : ex_ X d 58 68 [.float 2, v1, v2] [w0, w1] h Q = ex_ X d 58 69 [.float 2, v1, v2] [.float 2, w0, w1] h Q := ex_nx (show mx_at 58 68 = some (.aload_n 0, 1) by decide +kernel) rfl
set_option maxRecDepth 20000 in
theorem i58_68f1 : ex_ X d 58 68 [.float 3, v1, v2] [w0, w1] h Q = ex_ X d 58 69 [.float 3, v1, v2] [.float 3, w0, w1] h Q := ex_nx (show mx_at 58 68 = some (.aload_n 0, 1) by decide +kernel) rfl
set_option maxRecDepth 20000 in
theorem i58_68f2 : ex_ X d 58 68 [.float 4, v1, v2] [w0, w1] h Q = ex_ X d 58 69 [.float 4, v1, v2] [.float 4, w0, w1] h Q := ex_nx (show mx_at 58 68 = some (.aload_n 0, 1) by decide +kernel) rfl
set_option maxRecDepth 20000 in
theorem i58_68f3 : ex_ X d 58 68 [.float 5, v1, v2] [w0, w1] h Q = ex_ X d 58 69 [.float 5, v1, v2] [.float 5, w0, w1] h Q := ex_nx (show mx_at 58 68 = some (.aload_n 0, 1) by decide +kernel) rfl
set_option maxRecDepth 20000 in
theorem i58_69 : ex_ X d 58 69 [v0, v1, v2] [.ref a, w0, w1] h Q = (gk_ h a 1 [(10, 0)] = true ∧ ex_ X d 58 72 [v0, v1, v2] [gv_ h a 1, w0, w1] h Q) := R_getf (show mx_at 58 69 = some (.getfield 23, 3) by decide +kernel) (mx_fdo ow58 fd100023)
set_option maxRecDepth 20000 in
theorem i58_72 : ex_ X d 58 72 [v0, v1, v2] [.int y, .int x, w0] h Q = ex_ X d 58 73 [v0, v1, v2] [.int (x + y), w0] h Q := ex_nx (show mx_at 58 72 = some (.iadd, 1) by decide +kernel) rfl
set_option maxRecDepth 20000 in
theorem i58_73 (hn : 0 ≤ x ∧ x.toNatClampNeg ≤ 1000) : ex_ X d 58 73 [v0, v1, v2] [.int x, w0] h Q = ex_ X d 58 75 [v0, v1, v2] [.ref h.length, w0] (h ++ [.inl (0, x.toNatClampNeg, .inl (fun _ => 0))]) Q := R_newa (kd := 0) (w := 2) (i := .newarray .int) (show mx_at 58 73 = some (.newarray .int, 2) by decide +kernel) (fun _ => rfl) hn
set_option maxRecDepth 20000 in
theorem i58_75 : ex_ X d 58 75 [v0, v1, v2] [w, .ref a] h Q = (pk_ 58 h a 6 w [(10, 0)] = true ∧ ex_ X d 58 78 [v0, v1, v2] [] (pf_ h a 6 w) Q) := R_putf (show mx_at 58 75 = some (.putfield 41, 3) by decide +kernel) (mx_fdo ow58 fd100041)
set_option maxRecDepth 20000 in
theorem i58_78 : ex_ X d 58 78 [.ref a, v1, v2] [] h Q = ex_ X d 58 79 [.ref a, v1, v2] [.ref a] h Q := ex_nx (show mx_at 58 78 = some (.aload_n 0, 1) by decide +kernel) rfl
set_option maxRecDepth 20000 in
theorem i58_78f0 : ex_ X d 58 78 [.float 2, v1, v2] [] h Q = ex_ X d 58 79 [.float 2, v1, v2] [.float 2] h Q := ex_nx (show mx_at 58 78 = some (.aload_n 0, 1) by decide +kernel) rfl
set_option maxRecDepth 20000 in
theorem i58_78f1 : ex_ X d 58 78 [.float 3, v1, v2] [] h Q = ex_ X d 58 79 [.float 3, v1, v2] [.float 3] h Q := ex_nx (show mx_at 58 78 = some (.aload_n 0, 1) by decide +kernel) rfl
set_option maxRecDepth 20000 in
theorem i58_78f2 : ex_ X d 58 78 [.float 4, v1, v2] [] h Q = ex_ X d 58 79 [.float 4, v1, v2] [.float 4] h Q := ex_nx (show mx_at 58 78 = some (.aload_n 0, 1) by decide +kernel) rfl
set_option maxRecDepth 20000 in
theorem i58_78f3 : ex_ X d 58 78 [.float 5, v1, v2] [] h Q = ex_ X d 58 79 [.float 5, v1, v2] [.float 5] h Q := ex_nx (show mx_at 58 78 = some (.aload_n 0, 1) by decide +kernel) rfl
set_option maxRecDepth 20000 in
theorem i58_79 : ex_ X d 58 79 [v0, v1, v2] [w0] h Q = ex_ X d 58 80 [v0, v1, v2] [.int 4, w0] h Q := R_iconst (show mx_at 58 79 = some (.iconst 4, 1) by decide +kernel) (by decide)
set_option maxRecDepth 20000 in
theorem i58_80 : ex_ X d 58 80 [.ref a, v1, v2] [w0, w1] h Q = ex_ X d 58 81 [.ref a, v1, v2] [.ref a, w0, w1] h Q := ex_nx (show mx_at 58 80 = some (.aload_n 0, 1) by decide +kernel) rfl
set_option maxRecDepth 20000 in
theorem i58_80f0 : ex_ X d 58 80 [.float 2, v1, v2] [w0, w1] h Q = ex_ X d 58 81 [.float 2, v1, v2] [.float 2, w0, w1] h Q := ex_nx (show mx_at 58 80 = some (.aload_n 0, 1) by decide +kernel) rfl
set_option maxRecDepth 20000 in
theorem i58_80f1 : ex_ X d 58 80 [.float 3, v1, v2] [w0, w1] h Q = ex_ X d 58 81 [.float 3, v1, v2] [.float 3, w0, w1] h Q := ex_nx (show mx_at 58 80 = some (.aload_n 0, 1) by decide +kernel) rfl
set_option maxRecDepth 20000 in
theorem i58_80f2 : ex_ X d 58 80 [.float 4, v1, v2] [w0, w1] h Q = ex_ X d 58 81 [.float 4, v1, v2] [.float 4, w0, w1] h Q := ex_nx (show mx_at 58 80 = some (.aload_n 0, 1) by decide +kernel) rfl
set_option maxRecDepth 20000 in
theorem i58_80f3 : ex_ X d 58 80 [.float 5, v1, v2] [w0, w1] h Q = ex_ X d 58 81 [.float 5, v1, v2] [.float 5, w0, w1] h Q := ex_nx (show mx_at 58 80 = some (.aload_n 0, 1) by decide +kernel) rfl
set_option maxRecDepth 20000 in
theorem i58_81 : ex_ X d 58 81 [v0, v1, v2] [.ref a, w0, w1] h Q = (gk_ h a 1 [(10, 0)] = true ∧ ex_ X d 58 84 [v0, v1, v2] [gv_ h a 1, w0, w1] h Q) := R_getf (show mx_at 58 81 = some (.getfield 23, 3) by decide +kernel) (mx_fdo ow58 fd100023)
set_option maxRecDepth 20000 in
theorem i58_84 : ex_ X d 58 84 [v0, v1, v2] [.int y, .int x, w0] h Q = ex_ X d 58 85 [v0, v1, v2] [.int (x + y), w0] h Q := ex_nx (show mx_at 58 84 = some (.iadd, 1) by decide +kernel) rfl
set_option maxRecDepth 20000 in
theorem i58_85 (hn : 0 ≤ x ∧ x.toNatClampNeg ≤ 1000) : ex_ X d 58 85 [v0, v1, v2] [.int x, w0] h Q = ex_ X d 58 87 [v0, v1, v2] [.ref h.length, w0] (h ++ [.inl (0, x.toNatClampNeg, .inl (fun _ => 0))]) Q := R_newa (kd := 0) (w := 2) (i := .newarray .int) (show mx_at 58 85 = some (.newarray .int, 2) by decide +kernel) (fun _ => rfl) hn
set_option maxRecDepth 20000 in
theorem i58_87 : ex_ X d 58 87 [v0, v1, v2] [w, .ref a] h Q = (pk_ 58 h a 7 w [(10, 0)] = true ∧ ex_ X d 58 90 [v0, v1, v2] [] (pf_ h a 7 w) Q) := R_putf (show mx_at 58 87 = some (.putfield 44, 3) by decide +kernel) (mx_fdo ow58 fd100044)
set_option maxRecDepth 20000 in
theorem i58_90 : ex_ X d 58 90 [v0, v1, v2] [] h Q = Q none h := ex_ret (show mx_at 58 90 = some (.return_, 1) by decide +kernel) (mx_retV rt58)
theorem i58_e : ev_ X d 58 [.ref a, .ref a0, .int x1] h Q = ex_ X d 58 0 [.ref a, .ref a0, .int x1] [] h Q := by rw [ev_, ml58]; rfl
-- 59 X10_readWhole
set_option maxRecDepth 20000 in
theorem i59_0 : ex_ X d 59 0 [.ref a] [] h Q = ex_ X d 59 1 [.ref a] [.ref a] h Q := ex_nx (show mx_at 59 0 = some (.aload_n 0, 1) by decide +kernel) rfl
set_option maxRecDepth 20000 in
theorem i59_1 : ex_ X d 59 1 [.ref a] [w0] h Q = ex_ X d 59 2 [.ref a] [.ref a, w0] h Q := ex_nx (show mx_at 59 1 = some (.aload_n 0, 1) by decide +kernel) rfl
set_option maxRecDepth 20000 in
theorem i59_2 : ex_ X d 59 2 [v0] [w0, w1] h Q = ex_ X d 59 3 [v0] [.int 0, w0, w1] h Q := R_iconst (show mx_at 59 2 = some (.iconst 0, 1) by decide +kernel) (by decide)
set_option maxRecDepth 20000 in
theorem i59_3 : ex_ X d 59 3 [v0] [w0, w1, w2] h Q = ex_ X d 59 4 [v0] [.int 0, w0, w1, w2] h Q := R_iconst (show mx_at 59 3 = some (.iconst 0, 1) by decide +kernel) (by decide)
set_option maxRecDepth 20000 in
theorem i59_4 (hc : co_ h a = some 10) : ex_ X (d + 1) 59 4 [v0] [.int x1, .int x0, .ref a, w0] h Q = ev_ X d 65 [.ref a, .int x0, .int x1] h (fun r h' => ex_ X (d + 1) 59 7 [v0] (r.toList ++ [w0]) h' Q) := R_vir (show mx_at 59 4 = some (.invokevirtual 47, 3) by decide +kernel) (mx_clk ow59 cc10_47) (Nat.le_of_ble_eq_true rfl) rfl rfl hc rfl (Nat.le_of_ble_eq_true rfl) (Nat.le_of_ble_eq_true rfl) (by rw [ml65]; exact Nat.le_of_ble_eq_true rfl)
set_option maxRecDepth 20000 in
theorem i59_7 : ex_ X d 59 7 [v0] [w, .ref a] h Q = (pk_ 59 h a 9 w [(10, 0)] = true ∧ ex_ X d 59 10 [v0] [] (pf_ h a 9 w) Q) := R_putf (show mx_at 59 7 = some (.putfield 13, 3) by decide +kernel) (mx_fdo ow59 fd100013)
set_option maxRecDepth 20000 in
theorem i59_10 : ex_ X d 59 10 [.ref a] [] h Q = ex_ X d 59 11 [.ref a] [.ref a] h Q := ex_nx (show mx_at 59 10 = some (.aload_n 0, 1) by decide +kernel) rfl
set_option maxRecDepth 20000 in
theorem i59_11 : ex_ X d 59 11 [v0] [.ref a] h Q = (gk_ h a 9 [(10, 0)] = true ∧ ex_ X d 59 14 [v0] [gv_ h a 9] h Q) := R_getf (show mx_at 59 11 = some (.getfield 13, 3) by decide +kernel) (mx_fdo ow59 fd100013)
set_option maxRecDepth 20000 in
theorem i59_14 : ex_ X d 59 14 [v0] [.int x] h Q = if x < 0 then ex_ X d 59 32 [v0] [] h Q else ex_ X d 59 17 [v0] [] h Q := (R_br (show mx_at 59 14 = some (.ifCond .lt 18, 3) by decide +kernel) rfl rfl).trans mx_ite
set_option maxRecDepth 20000 in
theorem i59_17 : ex_ X d 59 17 [.ref a] [] h Q = ex_ X d 59 18 [.ref a] [.ref a] h Q := ex_nx (show mx_at 59 17 = some (.aload_n 0, 1) by decide +kernel) rfl
set_option maxRecDepth 20000 in
theorem i59_18 : ex_ X d 59 18 [v0] [.ref a] h Q = (gk_ h a 3 [(10, 0)] = true ∧ ex_ X d 59 21 [v0] [gv_ h a 3] h Q) := R_getf (show mx_at 59 18 = some (.getfield 51, 3) by decide +kernel) (mx_fdo ow59 fd100051)
set_option maxRecDepth 20000 in
theorem i59_21 : ex_ X d 59 21 [.ref a] [w0] h Q = ex_ X d 59 22 [.ref a] [.ref a, w0] h Q := ex_nx (show mx_at 59 21 = some (.aload_n 0, 1) by decide +kernel) rfl
set_option maxRecDepth 20000 in
theorem i59_22 : ex_ X d 59 22 [v0] [.ref a, w0] h Q = (gk_ h a 1 [(10, 0)] = true ∧ ex_ X d 59 25 [v0] [gv_ h a 1, w0] h Q) := R_getf (show mx_at 59 22 = some (.getfield 23, 3) by decide +kernel) (mx_fdo ow59 fd100023)
set_option maxRecDepth 20000 in
theorem i59_25 : ex_ X d 59 25 [v0] [.int y, .int x] h Q = if ¬ x = y then ex_ X d 59 32 [v0] [] h Q else ex_ X d 59 28 [v0] [] h Q := (R_br (show mx_at 59 25 = some (.if_icmp .ne 7, 3) by decide +kernel) rfl rfl).trans mx_ite
set_option maxRecDepth 20000 in
theorem i59_28 : ex_ X d 59 28 [v0] [] h Q = ex_ X d 59 29 [v0] [.int 1] h Q := R_iconst (show mx_at 59 28 = some (.iconst 1, 1) by decide +kernel) (by decide)
set_option maxRecDepth 20000 in
theorem i59_29 : ex_ X d 59 29 [v0] [w0] h Q = ex_ X d 59 33 [v0] [w0] h Q := R_to (show mx_at 59 29 = some (.goto 4, 3) by decide +kernel) rfl rfl
set_option maxRecDepth 20000 in
theorem i59_32 : ex_ X d 59 32 [v0] [] h Q = ex_ X d 59 33 [v0] [.int 0] h Q := R_iconst (show mx_at 59 32 = some (.iconst 0, 1) by decide +kernel) (by decide)
set_option maxRecDepth 20000 in
theorem i59_33 (hx : x = 0 ∨ x = 1) : ex_ X d 59 33 [v0] [.int x] h Q = Q (some (.int x)) h := ex_ret (show mx_at 59 33 = some (.ireturn, 1) by decide +kernel) (mx_retZ hx rt59)
theorem i59_e : ev_ X d 59 [.ref a] h Q = ex_ X d 59 0 [.ref a] [] h Q := by rw [ev_, ml59]; rfl
-- 60 X10_gives
set_option maxRecDepth 20000 in
theorem i60_0 : ex_ X d 60 0 [.ref a, v1, v2, v3, v4, v5, v6, v7] [] h Q = ex_ X d 60 1 [.ref a, v1, v2, v3, v4, v5, v6, v7] [.ref a] h Q := ex_nx (show mx_at 60 0 = some (.aload_n 0, 1) by decide +kernel) rfl
set_option maxRecDepth 20000 in
theorem i60_1 : ex_ X d 60 1 [v0, v1, v2, v3, v4, v5, v6, v7] [.ref a] h Q = (gk_ h a 7 [(10, 0)] = true ∧ ex_ X d 60 4 [v0, v1, v2, v3, v4, v5, v6, v7] [gv_ h a 7] h Q) := R_getf (show mx_at 60 1 = some (.getfield 44, 3) by decide +kernel) (mx_fdo ow60 fd100044)
set_option maxRecDepth 20000 in
theorem i60_4 : ex_ X d 60 4 [v0, v1, v2, v3, v4, v5, v6, v7] [w0] h Q = ex_ X d 60 5 [v0, v1, v2, v3, v4, v5, v6, v7] [.int 0, w0] h Q := R_iconst (show mx_at 60 4 = some (.iconst 0, 1) by decide +kernel) (by decide)
set_option maxRecDepth 20000 in
theorem i60_5 : ex_ X d 60 5 [v0, .int x, v2, v3, v4, v5, v6, v7] [w0, w1] h Q = ex_ X d 60 6 [v0, .int x, v2, v3, v4, v5, v6, v7] [.int x, w0, w1] h Q := ex_nx (show mx_at 60 5 = some (.iload_n 1, 1) by decide +kernel) rfl
set_option maxRecDepth 20000 in
theorem i60_6 : ex_ X d 60 6 [v0, v1, v2, v3, v4, v5, v6, v7] [.int x, .int i, .ref a] h Q = (ik_ h a i = true ∧ ex_ X d 60 7 [v0, v1, v2, v3, v4, v5, v6, v7] [] (is_ h a i x) Q) := R_iast (show mx_at 60 6 = some (.iastore, 1) by decide +kernel)
set_option maxRecDepth 20000 in
theorem i60_7 : ex_ X d 60 7 [.ref a, v1, v2, v3, v4, v5, v6, v7] [] h Q = ex_ X d 60 8 [.ref a, v1, v2, v3, v4, v5, v6, v7] [.ref a] h Q := ex_nx (show mx_at 60 7 = some (.aload_n 0, 1) by decide +kernel) rfl
set_option maxRecDepth 20000 in
theorem i60_8 : ex_ X d 60 8 [v0, v1, v2, v3, v4, v5, v6, v7] [.ref a] h Q = (gk_ h a 7 [(10, 0)] = true ∧ ex_ X d 60 11 [v0, v1, v2, v3, v4, v5, v6, v7] [gv_ h a 7] h Q) := R_getf (show mx_at 60 8 = some (.getfield 44, 3) by decide +kernel) (mx_fdo ow60 fd100044)
set_option maxRecDepth 20000 in
theorem i60_11 : ex_ X d 60 11 [v0, v1, v2, v3, v4, v5, v6, v7] [w0] h Q = ex_ X d 60 12 [v0, v1, v2, v3, v4, v5, v6, v7] [.int 1, w0] h Q := R_iconst (show mx_at 60 11 = some (.iconst 1, 1) by decide +kernel) (by decide)
set_option maxRecDepth 20000 in
theorem i60_12 : ex_ X d 60 12 [v0, v1, .int x, v3, v4, v5, v6, v7] [w0, w1] h Q = ex_ X d 60 13 [v0, v1, .int x, v3, v4, v5, v6, v7] [.int x, w0, w1] h Q := ex_nx (show mx_at 60 12 = some (.iload_n 2, 1) by decide +kernel) rfl
set_option maxRecDepth 20000 in
theorem i60_13 : ex_ X d 60 13 [v0, v1, v2, v3, v4, v5, v6, v7] [.int x, .int i, .ref a] h Q = (ik_ h a i = true ∧ ex_ X d 60 14 [v0, v1, v2, v3, v4, v5, v6, v7] [] (is_ h a i x) Q) := R_iast (show mx_at 60 13 = some (.iastore, 1) by decide +kernel)
set_option maxRecDepth 20000 in
theorem i60_14 : ex_ X d 60 14 [.ref a, v1, v2, v3, v4, v5, v6, v7] [] h Q = ex_ X d 60 15 [.ref a, v1, v2, v3, v4, v5, v6, v7] [.ref a] h Q := ex_nx (show mx_at 60 14 = some (.aload_n 0, 1) by decide +kernel) rfl
set_option maxRecDepth 20000 in
theorem i60_15 : ex_ X d 60 15 [v0, v1, v2, v3, v4, v5, v6, v7] [.ref a] h Q = (gk_ h a 7 [(10, 0)] = true ∧ ex_ X d 60 18 [v0, v1, v2, v3, v4, v5, v6, v7] [gv_ h a 7] h Q) := R_getf (show mx_at 60 15 = some (.getfield 44, 3) by decide +kernel) (mx_fdo ow60 fd100044)
set_option maxRecDepth 20000 in
theorem i60_18 : ex_ X d 60 18 [v0, v1, v2, v3, v4, v5, v6, v7] [w0] h Q = ex_ X d 60 19 [v0, v1, v2, v3, v4, v5, v6, v7] [.int 2, w0] h Q := R_iconst (show mx_at 60 18 = some (.iconst 2, 1) by decide +kernel) (by decide)
set_option maxRecDepth 20000 in
theorem i60_19 : ex_ X d 60 19 [v0, v1, v2, .int x, v4, v5, v6, v7] [w0, w1] h Q = ex_ X d 60 20 [v0, v1, v2, .int x, v4, v5, v6, v7] [.int x, w0, w1] h Q := ex_nx (show mx_at 60 19 = some (.iload_n 3, 1) by decide +kernel) rfl
set_option maxRecDepth 20000 in
theorem i60_20 : ex_ X d 60 20 [v0, v1, v2, v3, v4, v5, v6, v7] [.int x, .int i, .ref a] h Q = (ik_ h a i = true ∧ ex_ X d 60 21 [v0, v1, v2, v3, v4, v5, v6, v7] [] (is_ h a i x) Q) := R_iast (show mx_at 60 20 = some (.iastore, 1) by decide +kernel)
set_option maxRecDepth 20000 in
theorem i60_21 : ex_ X d 60 21 [.ref a, v1, v2, v3, v4, v5, v6, v7] [] h Q = ex_ X d 60 22 [.ref a, v1, v2, v3, v4, v5, v6, v7] [.ref a] h Q := ex_nx (show mx_at 60 21 = some (.aload_n 0, 1) by decide +kernel) rfl
set_option maxRecDepth 20000 in
theorem i60_22 : ex_ X d 60 22 [v0, v1, v2, v3, v4, v5, v6, v7] [.ref a] h Q = (gk_ h a 7 [(10, 0)] = true ∧ ex_ X d 60 25 [v0, v1, v2, v3, v4, v5, v6, v7] [gv_ h a 7] h Q) := R_getf (show mx_at 60 22 = some (.getfield 44, 3) by decide +kernel) (mx_fdo ow60 fd100044)
set_option maxRecDepth 20000 in
theorem i60_25 : ex_ X d 60 25 [v0, v1, v2, v3, v4, v5, v6, v7] [w0] h Q = ex_ X d 60 26 [v0, v1, v2, v3, v4, v5, v6, v7] [.int 3, w0] h Q := R_iconst (show mx_at 60 25 = some (.iconst 3, 1) by decide +kernel) (by decide)
set_option maxRecDepth 20000 in
theorem i60_26 : ex_ X d 60 26 [v0, v1, v2, v3, .int x, v5, v6, v7] [w0, w1] h Q = ex_ X d 60 28 [v0, v1, v2, v3, .int x, v5, v6, v7] [.int x, w0, w1] h Q := ex_nx (show mx_at 60 26 = some (.iload 4, 2) by decide +kernel) rfl
set_option maxRecDepth 20000 in
theorem i60_28 : ex_ X d 60 28 [v0, v1, v2, v3, v4, v5, v6, v7] [.int x, .int i, .ref a] h Q = (ik_ h a i = true ∧ ex_ X d 60 29 [v0, v1, v2, v3, v4, v5, v6, v7] [] (is_ h a i x) Q) := R_iast (show mx_at 60 28 = some (.iastore, 1) by decide +kernel)
set_option maxRecDepth 20000 in
theorem i60_29 : ex_ X d 60 29 [v0, v1, v2, v3, v4, v5, v6, v7] [] h Q = ex_ X d 60 30 [v0, v1, v2, v3, v4, v5, v6, v7] [.int 4] h Q := R_iconst (show mx_at 60 29 = some (.iconst 4, 1) by decide +kernel) (by decide)
set_option maxRecDepth 20000 in
theorem i60_30 : ex_ X d 60 30 [v0, v1, v2, v3, v4, v5, v6, v7] [.int x] h Q = (mx_nl v4 = true ∧ ex_ X d 60 32 [v0, v1, v2, v3, v4, .int x, v6, v7] [] h Q) := mx_t1 (R_st (ok := mx_isI) (n := 5) (w := 2) (show mx_at 60 30 = some (.istore 5, 2) by decide +kernel) (fun _ _ => rfl) (Nat.le_of_ble_eq_true rfl)) rfl
set_option maxRecDepth 20000 in
theorem i60_32 : ex_ X d 60 32 [v0, v1, v2, v3, v4, .int x, v6, v7] [] h Q = ex_ X d 60 34 [v0, v1, v2, v3, v4, .int x, v6, v7] [.int x] h Q := ex_nx (show mx_at 60 32 = some (.iload 5, 2) by decide +kernel) rfl
set_option maxRecDepth 20000 in
theorem i60_34 : ex_ X d 60 34 [.ref a, v1, v2, v3, v4, v5, v6, v7] [w0] h Q = ex_ X d 60 35 [.ref a, v1, v2, v3, v4, v5, v6, v7] [.ref a, w0] h Q := ex_nx (show mx_at 60 34 = some (.aload_n 0, 1) by decide +kernel) rfl
set_option maxRecDepth 20000 in
theorem i60_35 : ex_ X d 60 35 [v0, v1, v2, v3, v4, v5, v6, v7] [.ref a, w0] h Q = (gk_ h a 8 [(10, 0)] = true ∧ ex_ X d 60 38 [v0, v1, v2, v3, v4, v5, v6, v7] [gv_ h a 8, w0] h Q) := R_getf (show mx_at 60 35 = some (.getfield 9, 3) by decide +kernel) (mx_fdo ow60 fd100009)
set_option maxRecDepth 20000 in
theorem i60_38 : ex_ X d 60 38 [v0, v1, v2, v3, v4, v5, v6, v7] [.int y, .int x] h Q = if y ≤ x then ex_ X d 60 411 [v0, v1, v2, v3, v4, v5, v6, v7] [] h Q else ex_ X d 60 41 [v0, v1, v2, v3, v4, v5, v6, v7] [] h Q := (R_br (show mx_at 60 38 = some (.if_icmp .ge 373, 3) by decide +kernel) rfl rfl).trans mx_ite
set_option maxRecDepth 20000 in
theorem i60_41 : ex_ X d 60 41 [.ref a, v1, v2, v3, v4, v5, v6, v7] [] h Q = ex_ X d 60 42 [.ref a, v1, v2, v3, v4, v5, v6, v7] [.ref a] h Q := ex_nx (show mx_at 60 41 = some (.aload_n 0, 1) by decide +kernel) rfl
set_option maxRecDepth 20000 in
theorem i60_42 : ex_ X d 60 42 [v0, v1, v2, v3, v4, v5, v6, v7] [.ref a] h Q = (gk_ h a 7 [(10, 0)] = true ∧ ex_ X d 60 45 [v0, v1, v2, v3, v4, v5, v6, v7] [gv_ h a 7] h Q) := R_getf (show mx_at 60 42 = some (.getfield 44, 3) by decide +kernel) (mx_fdo ow60 fd100044)
set_option maxRecDepth 20000 in
theorem i60_45 : ex_ X d 60 45 [.ref a, v1, v2, v3, v4, v5, v6, v7] [w0] h Q = ex_ X d 60 46 [.ref a, v1, v2, v3, v4, v5, v6, v7] [.ref a, w0] h Q := ex_nx (show mx_at 60 45 = some (.aload_n 0, 1) by decide +kernel) rfl
set_option maxRecDepth 20000 in
theorem i60_46 : ex_ X d 60 46 [v0, v1, v2, v3, v4, v5, v6, v7] [.ref a, w0] h Q = (gk_ h a 5 [(10, 0)] = true ∧ ex_ X d 60 49 [v0, v1, v2, v3, v4, v5, v6, v7] [gv_ h a 5, w0] h Q) := R_getf (show mx_at 60 46 = some (.getfield 38, 3) by decide +kernel) (mx_fdo ow60 fd100038)
set_option maxRecDepth 20000 in
theorem i60_49 : ex_ X d 60 49 [v0, v1, v2, v3, v4, .int x, v6, v7] [w0, w1] h Q = ex_ X d 60 51 [v0, v1, v2, v3, v4, .int x, v6, v7] [.int x, w0, w1] h Q := ex_nx (show mx_at 60 49 = some (.iload 5, 2) by decide +kernel) rfl
set_option maxRecDepth 20000 in
theorem i60_51 : ex_ X d 60 51 [v0, v1, v2, v3, v4, v5, v6, v7] [.int i, .ref a, w0] h Q = (ik_ h a i = true ∧ ex_ X d 60 52 [v0, v1, v2, v3, v4, v5, v6, v7] [.int (ia_ h a i), w0] h Q) := R_iald (show mx_at 60 51 = some (.iaload, 1) by decide +kernel)
set_option maxRecDepth 20000 in
theorem i60_52 : ex_ X d 60 52 [v0, v1, v2, v3, v4, v5, v6, v7] [.int i, .ref a] h Q = (ik_ h a i = true ∧ ex_ X d 60 53 [v0, v1, v2, v3, v4, v5, v6, v7] [.int (ia_ h a i)] h Q) := R_iald (show mx_at 60 52 = some (.iaload, 1) by decide +kernel)
set_option maxRecDepth 20000 in
theorem i60_53 : ex_ X d 60 53 [v0, v1, v2, v3, v4, v5, v6, v7] [.int x] h Q = (mx_nl v5 = true ∧ ex_ X d 60 55 [v0, v1, v2, v3, v4, v5, .int x, v7] [] h Q) := mx_t1 (R_st (ok := mx_isI) (n := 6) (w := 2) (show mx_at 60 53 = some (.istore 6, 2) by decide +kernel) (fun _ _ => rfl) (Nat.le_of_ble_eq_true rfl)) rfl
set_option maxRecDepth 20000 in
theorem i60_55 : ex_ X d 60 55 [.ref a, v1, v2, v3, v4, v5, v6, v7] [] h Q = ex_ X d 60 56 [.ref a, v1, v2, v3, v4, v5, v6, v7] [.ref a] h Q := ex_nx (show mx_at 60 55 = some (.aload_n 0, 1) by decide +kernel) rfl
set_option maxRecDepth 20000 in
theorem i60_56 : ex_ X d 60 56 [v0, v1, v2, v3, v4, v5, v6, v7] [.ref a] h Q = (gk_ h a 7 [(10, 0)] = true ∧ ex_ X d 60 59 [v0, v1, v2, v3, v4, v5, v6, v7] [gv_ h a 7] h Q) := R_getf (show mx_at 60 56 = some (.getfield 44, 3) by decide +kernel) (mx_fdo ow60 fd100044)
set_option maxRecDepth 20000 in
theorem i60_59 : ex_ X d 60 59 [.ref a, v1, v2, v3, v4, v5, v6, v7] [w0] h Q = ex_ X d 60 60 [.ref a, v1, v2, v3, v4, v5, v6, v7] [.ref a, w0] h Q := ex_nx (show mx_at 60 59 = some (.aload_n 0, 1) by decide +kernel) rfl
set_option maxRecDepth 20000 in
theorem i60_60 : ex_ X d 60 60 [v0, v1, v2, v3, v4, v5, v6, v7] [.ref a, w0] h Q = (gk_ h a 6 [(10, 0)] = true ∧ ex_ X d 60 63 [v0, v1, v2, v3, v4, v5, v6, v7] [gv_ h a 6, w0] h Q) := R_getf (show mx_at 60 60 = some (.getfield 41, 3) by decide +kernel) (mx_fdo ow60 fd100041)
set_option maxRecDepth 20000 in
theorem i60_63 : ex_ X d 60 63 [v0, v1, v2, v3, v4, .int x, v6, v7] [w0, w1] h Q = ex_ X d 60 65 [v0, v1, v2, v3, v4, .int x, v6, v7] [.int x, w0, w1] h Q := ex_nx (show mx_at 60 63 = some (.iload 5, 2) by decide +kernel) rfl
set_option maxRecDepth 20000 in
theorem i60_65 : ex_ X d 60 65 [v0, v1, v2, v3, v4, v5, v6, v7] [.int i, .ref a, w0] h Q = (ik_ h a i = true ∧ ex_ X d 60 66 [v0, v1, v2, v3, v4, v5, v6, v7] [.int (ia_ h a i), w0] h Q) := R_iald (show mx_at 60 65 = some (.iaload, 1) by decide +kernel)
set_option maxRecDepth 20000 in
theorem i60_66 : ex_ X d 60 66 [v0, v1, v2, v3, v4, v5, v6, v7] [.int i, .ref a] h Q = (ik_ h a i = true ∧ ex_ X d 60 67 [v0, v1, v2, v3, v4, v5, v6, v7] [.int (ia_ h a i)] h Q) := R_iald (show mx_at 60 66 = some (.iaload, 1) by decide +kernel)
set_option maxRecDepth 20000 in
theorem i60_67 : ex_ X d 60 67 [v0, v1, v2, v3, v4, v5, v6, v7] [.int x] h Q = (mx_nl v6 = true ∧ ex_ X d 60 69 [v0, v1, v2, v3, v4, v5, v6, .int x] [] h Q) := mx_t1 (R_st (ok := mx_isI) (n := 7) (w := 2) (show mx_at 60 67 = some (.istore 7, 2) by decide +kernel) (fun _ _ => rfl) (Nat.le_of_ble_eq_true rfl)) rfl
set_option maxRecDepth 20000 in
theorem i60_69 : ex_ X d 60 69 [.ref a, v1, v2, v3, v4, v5, v6, v7] [] h Q = ex_ X d 60 70 [.ref a, v1, v2, v3, v4, v5, v6, v7] [.ref a] h Q := ex_nx (show mx_at 60 69 = some (.aload_n 0, 1) by decide +kernel) rfl
set_option maxRecDepth 20000 in
theorem i60_70 : ex_ X d 60 70 [v0, v1, v2, v3, v4, v5, v6, v7] [.ref a] h Q = (gk_ h a 4 [(10, 0)] = true ∧ ex_ X d 60 73 [v0, v1, v2, v3, v4, v5, v6, v7] [gv_ h a 4] h Q) := R_getf (show mx_at 60 70 = some (.getfield 34, 3) by decide +kernel) (mx_fdo ow60 fd100034)
set_option maxRecDepth 20000 in
theorem i60_73 : ex_ X d 60 73 [v0, v1, v2, v3, v4, .int x, v6, v7] [w0] h Q = ex_ X d 60 75 [v0, v1, v2, v3, v4, .int x, v6, v7] [.int x, w0] h Q := ex_nx (show mx_at 60 73 = some (.iload 5, 2) by decide +kernel) rfl
set_option maxRecDepth 20000 in
theorem i60_75 : ex_ X d 60 75 [v0, v1, v2, v3, v4, v5, v6, v7] [.int i, .ref a] h Q = (ik_ h a i = true ∧ ex_ X d 60 76 [v0, v1, v2, v3, v4, v5, v6, v7] [.int (ia_ h a i)] h Q) := R_iald (show mx_at 60 75 = some (.iaload, 1) by decide +kernel)
set_option maxRecDepth 20000 in
theorem i60_76_33 : ex_ X d 60 76 [v0, v1, v2, v3, v4, v5, v6, v7] [.int 33] h Q = ex_ X d 60 385 [v0, v1, v2, v3, v4, v5, v6, v7] [] h Q := R_lsw (off := 309) (show mx_at 60 76 = some (.lookupswitch 329 #[(33, 309), (37, 285), (38, 125), (42, 246), (43, 216), (45, 231), (47, 261), (60, 150), (61, 172), (62, 194), (124, 100)], 100) by decide +kernel) (by decide) (by decide) rfl
set_option maxRecDepth 20000 in
theorem i60_76_37 : ex_ X d 60 76 [v0, v1, v2, v3, v4, v5, v6, v7] [.int 37] h Q = ex_ X d 60 361 [v0, v1, v2, v3, v4, v5, v6, v7] [] h Q := R_lsw (off := 285) (show mx_at 60 76 = some (.lookupswitch 329 #[(33, 309), (37, 285), (38, 125), (42, 246), (43, 216), (45, 231), (47, 261), (60, 150), (61, 172), (62, 194), (124, 100)], 100) by decide +kernel) (by decide) (by decide) rfl
set_option maxRecDepth 20000 in
theorem i60_76_38 : ex_ X d 60 76 [v0, v1, v2, v3, v4, v5, v6, v7] [.int 38] h Q = ex_ X d 60 201 [v0, v1, v2, v3, v4, v5, v6, v7] [] h Q := R_lsw (off := 125) (show mx_at 60 76 = some (.lookupswitch 329 #[(33, 309), (37, 285), (38, 125), (42, 246), (43, 216), (45, 231), (47, 261), (60, 150), (61, 172), (62, 194), (124, 100)], 100) by decide +kernel) (by decide) (by decide) rfl
set_option maxRecDepth 20000 in
theorem i60_76_42 : ex_ X d 60 76 [v0, v1, v2, v3, v4, v5, v6, v7] [.int 42] h Q = ex_ X d 60 322 [v0, v1, v2, v3, v4, v5, v6, v7] [] h Q := R_lsw (off := 246) (show mx_at 60 76 = some (.lookupswitch 329 #[(33, 309), (37, 285), (38, 125), (42, 246), (43, 216), (45, 231), (47, 261), (60, 150), (61, 172), (62, 194), (124, 100)], 100) by decide +kernel) (by decide) (by decide) rfl
set_option maxRecDepth 20000 in
theorem i60_76_43 : ex_ X d 60 76 [v0, v1, v2, v3, v4, v5, v6, v7] [.int 43] h Q = ex_ X d 60 292 [v0, v1, v2, v3, v4, v5, v6, v7] [] h Q := R_lsw (off := 216) (show mx_at 60 76 = some (.lookupswitch 329 #[(33, 309), (37, 285), (38, 125), (42, 246), (43, 216), (45, 231), (47, 261), (60, 150), (61, 172), (62, 194), (124, 100)], 100) by decide +kernel) (by decide) (by decide) rfl
set_option maxRecDepth 20000 in
theorem i60_76_45 : ex_ X d 60 76 [v0, v1, v2, v3, v4, v5, v6, v7] [.int 45] h Q = ex_ X d 60 307 [v0, v1, v2, v3, v4, v5, v6, v7] [] h Q := R_lsw (off := 231) (show mx_at 60 76 = some (.lookupswitch 329 #[(33, 309), (37, 285), (38, 125), (42, 246), (43, 216), (45, 231), (47, 261), (60, 150), (61, 172), (62, 194), (124, 100)], 100) by decide +kernel) (by decide) (by decide) rfl
set_option maxRecDepth 20000 in
theorem i60_76_47 : ex_ X d 60 76 [v0, v1, v2, v3, v4, v5, v6, v7] [.int 47] h Q = ex_ X d 60 337 [v0, v1, v2, v3, v4, v5, v6, v7] [] h Q := R_lsw (off := 261) (show mx_at 60 76 = some (.lookupswitch 329 #[(33, 309), (37, 285), (38, 125), (42, 246), (43, 216), (45, 231), (47, 261), (60, 150), (61, 172), (62, 194), (124, 100)], 100) by decide +kernel) (by decide) (by decide) rfl
set_option maxRecDepth 20000 in
theorem i60_76_60 : ex_ X d 60 76 [v0, v1, v2, v3, v4, v5, v6, v7] [.int 60] h Q = ex_ X d 60 226 [v0, v1, v2, v3, v4, v5, v6, v7] [] h Q := R_lsw (off := 150) (show mx_at 60 76 = some (.lookupswitch 329 #[(33, 309), (37, 285), (38, 125), (42, 246), (43, 216), (45, 231), (47, 261), (60, 150), (61, 172), (62, 194), (124, 100)], 100) by decide +kernel) (by decide) (by decide) rfl
set_option maxRecDepth 20000 in
theorem i60_76_61 : ex_ X d 60 76 [v0, v1, v2, v3, v4, v5, v6, v7] [.int 61] h Q = ex_ X d 60 248 [v0, v1, v2, v3, v4, v5, v6, v7] [] h Q := R_lsw (off := 172) (show mx_at 60 76 = some (.lookupswitch 329 #[(33, 309), (37, 285), (38, 125), (42, 246), (43, 216), (45, 231), (47, 261), (60, 150), (61, 172), (62, 194), (124, 100)], 100) by decide +kernel) (by decide) (by decide) rfl
set_option maxRecDepth 20000 in
theorem i60_76_62 : ex_ X d 60 76 [v0, v1, v2, v3, v4, v5, v6, v7] [.int 62] h Q = ex_ X d 60 270 [v0, v1, v2, v3, v4, v5, v6, v7] [] h Q := R_lsw (off := 194) (show mx_at 60 76 = some (.lookupswitch 329 #[(33, 309), (37, 285), (38, 125), (42, 246), (43, 216), (45, 231), (47, 261), (60, 150), (61, 172), (62, 194), (124, 100)], 100) by decide +kernel) (by decide) (by decide) rfl
set_option maxRecDepth 20000 in
theorem i60_76_124 : ex_ X d 60 76 [v0, v1, v2, v3, v4, v5, v6, v7] [.int 124] h Q = ex_ X d 60 176 [v0, v1, v2, v3, v4, v5, v6, v7] [] h Q := R_lsw (off := 100) (show mx_at 60 76 = some (.lookupswitch 329 #[(33, 309), (37, 285), (38, 125), (42, 246), (43, 216), (45, 231), (47, 261), (60, 150), (61, 172), (62, 194), (124, 100)], 100) by decide +kernel) (by decide) (by decide) rfl
set_option maxRecDepth 20000 in
theorem i60_76_d (hx : 33 ≠ x.toInt ∧ 37 ≠ x.toInt ∧ 38 ≠ x.toInt ∧ 42 ≠ x.toInt ∧ 43 ≠ x.toInt ∧ 45 ≠ x.toInt ∧ 47 ≠ x.toInt ∧ 60 ≠ x.toInt ∧ 61 ≠ x.toInt ∧ 62 ≠ x.toInt ∧ 124 ≠ x.toInt) : ex_ X d 60 76 [v0, v1, v2, v3, v4, v5, v6, v7] [.int x] h Q = ex_ X d 60 405 [v0, v1, v2, v3, v4, v5, v6, v7] [] h Q := R_lsw (off := 329) (show mx_at 60 76 = some (.lookupswitch 329 #[(33, 309), (37, 285), (38, 125), (42, 246), (43, 216), (45, 231), (47, 261), (60, 150), (61, 172), (62, 194), (124, 100)], 100) by decide +kernel) (by decide) (by simp [Op.lookupswitch.offset, hx]) rfl
set_option maxRecDepth 20000 in
theorem i60_176 : ex_ X d 60 176 [.ref a, v1, v2, v3, v4, v5, v6, v7] [] h Q = ex_ X d 60 177 [.ref a, v1, v2, v3, v4, v5, v6, v7] [.ref a] h Q := ex_nx (show mx_at 60 176 = some (.aload_n 0, 1) by decide +kernel) rfl
set_option maxRecDepth 20000 in
theorem i60_177 : ex_ X d 60 177 [v0, v1, v2, v3, v4, v5, v6, v7] [.ref a] h Q = (gk_ h a 7 [(10, 0)] = true ∧ ex_ X d 60 180 [v0, v1, v2, v3, v4, v5, v6, v7] [gv_ h a 7] h Q) := R_getf (show mx_at 60 177 = some (.getfield 44, 3) by decide +kernel) (mx_fdo ow60 fd100044)
set_option maxRecDepth 20000 in
theorem i60_180 : ex_ X d 60 180 [v0, v1, v2, v3, v4, .int x, v6, v7] [w0] h Q = ex_ X d 60 182 [v0, v1, v2, v3, v4, .int x, v6, v7] [.int x, w0] h Q := ex_nx (show mx_at 60 180 = some (.iload 5, 2) by decide +kernel) rfl
set_option maxRecDepth 20000 in
theorem i60_182 : ex_ X d 60 182 [v0, v1, v2, v3, v4, v5, .int x, v7] [w0, w1] h Q = ex_ X d 60 184 [v0, v1, v2, v3, v4, v5, .int x, v7] [.int x, w0, w1] h Q := ex_nx (show mx_at 60 182 = some (.iload 6, 2) by decide +kernel) rfl
set_option maxRecDepth 20000 in
theorem i60_184 : ex_ X d 60 184 [v0, v1, v2, v3, v4, v5, v6, v7] [.int x, w0, w1] h Q = if ¬ x = 0 then ex_ X d 60 192 [v0, v1, v2, v3, v4, v5, v6, v7] [w0, w1] h Q else ex_ X d 60 187 [v0, v1, v2, v3, v4, v5, v6, v7] [w0, w1] h Q := (R_br (show mx_at 60 184 = some (.ifCond .ne 8, 3) by decide +kernel) rfl rfl).trans mx_ite
set_option maxRecDepth 20000 in
theorem i60_187 : ex_ X d 60 187 [v0, v1, v2, v3, v4, v5, v6, .int x] [w0, w1] h Q = ex_ X d 60 189 [v0, v1, v2, v3, v4, v5, v6, .int x] [.int x, w0, w1] h Q := ex_nx (show mx_at 60 187 = some (.iload 7, 2) by decide +kernel) rfl
set_option maxRecDepth 20000 in
theorem i60_189 : ex_ X d 60 189 [v0, v1, v2, v3, v4, v5, v6, v7] [.int x, w0, w1] h Q = if x = 0 then ex_ X d 60 196 [v0, v1, v2, v3, v4, v5, v6, v7] [w0, w1] h Q else ex_ X d 60 192 [v0, v1, v2, v3, v4, v5, v6, v7] [w0, w1] h Q := (R_br (show mx_at 60 189 = some (.ifCond .eq 7, 3) by decide +kernel) rfl rfl).trans mx_ite
set_option maxRecDepth 20000 in
theorem i60_192 : ex_ X d 60 192 [v0, v1, v2, v3, v4, v5, v6, v7] [w0, w1] h Q = ex_ X d 60 193 [v0, v1, v2, v3, v4, v5, v6, v7] [.int 1, w0, w1] h Q := R_iconst (show mx_at 60 192 = some (.iconst 1, 1) by decide +kernel) (by decide)
set_option maxRecDepth 20000 in
theorem i60_193 : ex_ X d 60 193 [v0, v1, v2, v3, v4, v5, v6, v7] [w0, w1, w2] h Q = ex_ X d 60 197 [v0, v1, v2, v3, v4, v5, v6, v7] [w0, w1, w2] h Q := R_to (show mx_at 60 193 = some (.goto 4, 3) by decide +kernel) rfl rfl
set_option maxRecDepth 20000 in
theorem i60_196 : ex_ X d 60 196 [v0, v1, v2, v3, v4, v5, v6, v7] [w0, w1] h Q = ex_ X d 60 197 [v0, v1, v2, v3, v4, v5, v6, v7] [.int 0, w0, w1] h Q := R_iconst (show mx_at 60 196 = some (.iconst 0, 1) by decide +kernel) (by decide)
set_option maxRecDepth 20000 in
theorem i60_197 : ex_ X d 60 197 [v0, v1, v2, v3, v4, v5, v6, v7] [.int x, .int i, .ref a] h Q = (ik_ h a i = true ∧ ex_ X d 60 198 [v0, v1, v2, v3, v4, v5, v6, v7] [] (is_ h a i x) Q) := R_iast (show mx_at 60 197 = some (.iastore, 1) by decide +kernel)
set_option maxRecDepth 20000 in
theorem i60_198 : ex_ X d 60 198 [v0, v1, v2, v3, v4, v5, v6, v7] [] h Q = ex_ X d 60 405 [v0, v1, v2, v3, v4, v5, v6, v7] [] h Q := R_to (show mx_at 60 198 = some (.goto 207, 3) by decide +kernel) rfl rfl
set_option maxRecDepth 20000 in
theorem i60_201 : ex_ X d 60 201 [.ref a, v1, v2, v3, v4, v5, v6, v7] [] h Q = ex_ X d 60 202 [.ref a, v1, v2, v3, v4, v5, v6, v7] [.ref a] h Q := ex_nx (show mx_at 60 201 = some (.aload_n 0, 1) by decide +kernel) rfl
set_option maxRecDepth 20000 in
theorem i60_202 : ex_ X d 60 202 [v0, v1, v2, v3, v4, v5, v6, v7] [.ref a] h Q = (gk_ h a 7 [(10, 0)] = true ∧ ex_ X d 60 205 [v0, v1, v2, v3, v4, v5, v6, v7] [gv_ h a 7] h Q) := R_getf (show mx_at 60 202 = some (.getfield 44, 3) by decide +kernel) (mx_fdo ow60 fd100044)
set_option maxRecDepth 20000 in
theorem i60_205 : ex_ X d 60 205 [v0, v1, v2, v3, v4, .int x, v6, v7] [w0] h Q = ex_ X d 60 207 [v0, v1, v2, v3, v4, .int x, v6, v7] [.int x, w0] h Q := ex_nx (show mx_at 60 205 = some (.iload 5, 2) by decide +kernel) rfl
set_option maxRecDepth 20000 in
theorem i60_207 : ex_ X d 60 207 [v0, v1, v2, v3, v4, v5, .int x, v7] [w0, w1] h Q = ex_ X d 60 209 [v0, v1, v2, v3, v4, v5, .int x, v7] [.int x, w0, w1] h Q := ex_nx (show mx_at 60 207 = some (.iload 6, 2) by decide +kernel) rfl
set_option maxRecDepth 20000 in
theorem i60_209 : ex_ X d 60 209 [v0, v1, v2, v3, v4, v5, v6, v7] [.int x, w0, w1] h Q = if x = 0 then ex_ X d 60 221 [v0, v1, v2, v3, v4, v5, v6, v7] [w0, w1] h Q else ex_ X d 60 212 [v0, v1, v2, v3, v4, v5, v6, v7] [w0, w1] h Q := (R_br (show mx_at 60 209 = some (.ifCond .eq 12, 3) by decide +kernel) rfl rfl).trans mx_ite
set_option maxRecDepth 20000 in
theorem i60_212 : ex_ X d 60 212 [v0, v1, v2, v3, v4, v5, v6, .int x] [w0, w1] h Q = ex_ X d 60 214 [v0, v1, v2, v3, v4, v5, v6, .int x] [.int x, w0, w1] h Q := ex_nx (show mx_at 60 212 = some (.iload 7, 2) by decide +kernel) rfl
set_option maxRecDepth 20000 in
theorem i60_214 : ex_ X d 60 214 [v0, v1, v2, v3, v4, v5, v6, v7] [.int x, w0, w1] h Q = if x = 0 then ex_ X d 60 221 [v0, v1, v2, v3, v4, v5, v6, v7] [w0, w1] h Q else ex_ X d 60 217 [v0, v1, v2, v3, v4, v5, v6, v7] [w0, w1] h Q := (R_br (show mx_at 60 214 = some (.ifCond .eq 7, 3) by decide +kernel) rfl rfl).trans mx_ite
set_option maxRecDepth 20000 in
theorem i60_217 : ex_ X d 60 217 [v0, v1, v2, v3, v4, v5, v6, v7] [w0, w1] h Q = ex_ X d 60 218 [v0, v1, v2, v3, v4, v5, v6, v7] [.int 1, w0, w1] h Q := R_iconst (show mx_at 60 217 = some (.iconst 1, 1) by decide +kernel) (by decide)
set_option maxRecDepth 20000 in
theorem i60_218 : ex_ X d 60 218 [v0, v1, v2, v3, v4, v5, v6, v7] [w0, w1, w2] h Q = ex_ X d 60 222 [v0, v1, v2, v3, v4, v5, v6, v7] [w0, w1, w2] h Q := R_to (show mx_at 60 218 = some (.goto 4, 3) by decide +kernel) rfl rfl
set_option maxRecDepth 20000 in
theorem i60_221 : ex_ X d 60 221 [v0, v1, v2, v3, v4, v5, v6, v7] [w0, w1] h Q = ex_ X d 60 222 [v0, v1, v2, v3, v4, v5, v6, v7] [.int 0, w0, w1] h Q := R_iconst (show mx_at 60 221 = some (.iconst 0, 1) by decide +kernel) (by decide)
set_option maxRecDepth 20000 in
theorem i60_222 : ex_ X d 60 222 [v0, v1, v2, v3, v4, v5, v6, v7] [.int x, .int i, .ref a] h Q = (ik_ h a i = true ∧ ex_ X d 60 223 [v0, v1, v2, v3, v4, v5, v6, v7] [] (is_ h a i x) Q) := R_iast (show mx_at 60 222 = some (.iastore, 1) by decide +kernel)
set_option maxRecDepth 20000 in
theorem i60_223 : ex_ X d 60 223 [v0, v1, v2, v3, v4, v5, v6, v7] [] h Q = ex_ X d 60 405 [v0, v1, v2, v3, v4, v5, v6, v7] [] h Q := R_to (show mx_at 60 223 = some (.goto 182, 3) by decide +kernel) rfl rfl
set_option maxRecDepth 20000 in
theorem i60_226 : ex_ X d 60 226 [.ref a, v1, v2, v3, v4, v5, v6, v7] [] h Q = ex_ X d 60 227 [.ref a, v1, v2, v3, v4, v5, v6, v7] [.ref a] h Q := ex_nx (show mx_at 60 226 = some (.aload_n 0, 1) by decide +kernel) rfl
set_option maxRecDepth 20000 in
theorem i60_227 : ex_ X d 60 227 [v0, v1, v2, v3, v4, v5, v6, v7] [.ref a] h Q = (gk_ h a 7 [(10, 0)] = true ∧ ex_ X d 60 230 [v0, v1, v2, v3, v4, v5, v6, v7] [gv_ h a 7] h Q) := R_getf (show mx_at 60 227 = some (.getfield 44, 3) by decide +kernel) (mx_fdo ow60 fd100044)
set_option maxRecDepth 20000 in
theorem i60_230 : ex_ X d 60 230 [v0, v1, v2, v3, v4, .int x, v6, v7] [w0] h Q = ex_ X d 60 232 [v0, v1, v2, v3, v4, .int x, v6, v7] [.int x, w0] h Q := ex_nx (show mx_at 60 230 = some (.iload 5, 2) by decide +kernel) rfl
set_option maxRecDepth 20000 in
theorem i60_232 : ex_ X d 60 232 [v0, v1, v2, v3, v4, v5, .int x, v7] [w0, w1] h Q = ex_ X d 60 234 [v0, v1, v2, v3, v4, v5, .int x, v7] [.int x, w0, w1] h Q := ex_nx (show mx_at 60 232 = some (.iload 6, 2) by decide +kernel) rfl
set_option maxRecDepth 20000 in
theorem i60_234 : ex_ X d 60 234 [v0, v1, v2, v3, v4, v5, v6, .int x] [w0, w1, w2] h Q = ex_ X d 60 236 [v0, v1, v2, v3, v4, v5, v6, .int x] [.int x, w0, w1, w2] h Q := ex_nx (show mx_at 60 234 = some (.iload 7, 2) by decide +kernel) rfl
set_option maxRecDepth 20000 in
theorem i60_236 : ex_ X d 60 236 [v0, v1, v2, v3, v4, v5, v6, v7] [.int y, .int x, w0, w1] h Q = if y ≤ x then ex_ X d 60 243 [v0, v1, v2, v3, v4, v5, v6, v7] [w0, w1] h Q else ex_ X d 60 239 [v0, v1, v2, v3, v4, v5, v6, v7] [w0, w1] h Q := (R_br (show mx_at 60 236 = some (.if_icmp .ge 7, 3) by decide +kernel) rfl rfl).trans mx_ite
set_option maxRecDepth 20000 in
theorem i60_239 : ex_ X d 60 239 [v0, v1, v2, v3, v4, v5, v6, v7] [w0, w1] h Q = ex_ X d 60 240 [v0, v1, v2, v3, v4, v5, v6, v7] [.int 1, w0, w1] h Q := R_iconst (show mx_at 60 239 = some (.iconst 1, 1) by decide +kernel) (by decide)
set_option maxRecDepth 20000 in
theorem i60_240 : ex_ X d 60 240 [v0, v1, v2, v3, v4, v5, v6, v7] [w0, w1, w2] h Q = ex_ X d 60 244 [v0, v1, v2, v3, v4, v5, v6, v7] [w0, w1, w2] h Q := R_to (show mx_at 60 240 = some (.goto 4, 3) by decide +kernel) rfl rfl
set_option maxRecDepth 20000 in
theorem i60_243 : ex_ X d 60 243 [v0, v1, v2, v3, v4, v5, v6, v7] [w0, w1] h Q = ex_ X d 60 244 [v0, v1, v2, v3, v4, v5, v6, v7] [.int 0, w0, w1] h Q := R_iconst (show mx_at 60 243 = some (.iconst 0, 1) by decide +kernel) (by decide)
set_option maxRecDepth 20000 in
theorem i60_244 : ex_ X d 60 244 [v0, v1, v2, v3, v4, v5, v6, v7] [.int x, .int i, .ref a] h Q = (ik_ h a i = true ∧ ex_ X d 60 245 [v0, v1, v2, v3, v4, v5, v6, v7] [] (is_ h a i x) Q) := R_iast (show mx_at 60 244 = some (.iastore, 1) by decide +kernel)
set_option maxRecDepth 20000 in
theorem i60_245 : ex_ X d 60 245 [v0, v1, v2, v3, v4, v5, v6, v7] [] h Q = ex_ X d 60 405 [v0, v1, v2, v3, v4, v5, v6, v7] [] h Q := R_to (show mx_at 60 245 = some (.goto 160, 3) by decide +kernel) rfl rfl
set_option maxRecDepth 20000 in
theorem i60_248 : ex_ X d 60 248 [.ref a, v1, v2, v3, v4, v5, v6, v7] [] h Q = ex_ X d 60 249 [.ref a, v1, v2, v3, v4, v5, v6, v7] [.ref a] h Q := ex_nx (show mx_at 60 248 = some (.aload_n 0, 1) by decide +kernel) rfl
set_option maxRecDepth 20000 in
theorem i60_249 : ex_ X d 60 249 [v0, v1, v2, v3, v4, v5, v6, v7] [.ref a] h Q = (gk_ h a 7 [(10, 0)] = true ∧ ex_ X d 60 252 [v0, v1, v2, v3, v4, v5, v6, v7] [gv_ h a 7] h Q) := R_getf (show mx_at 60 249 = some (.getfield 44, 3) by decide +kernel) (mx_fdo ow60 fd100044)
set_option maxRecDepth 20000 in
theorem i60_252 : ex_ X d 60 252 [v0, v1, v2, v3, v4, .int x, v6, v7] [w0] h Q = ex_ X d 60 254 [v0, v1, v2, v3, v4, .int x, v6, v7] [.int x, w0] h Q := ex_nx (show mx_at 60 252 = some (.iload 5, 2) by decide +kernel) rfl
set_option maxRecDepth 20000 in
theorem i60_254 : ex_ X d 60 254 [v0, v1, v2, v3, v4, v5, .int x, v7] [w0, w1] h Q = ex_ X d 60 256 [v0, v1, v2, v3, v4, v5, .int x, v7] [.int x, w0, w1] h Q := ex_nx (show mx_at 60 254 = some (.iload 6, 2) by decide +kernel) rfl
set_option maxRecDepth 20000 in
theorem i60_256 : ex_ X d 60 256 [v0, v1, v2, v3, v4, v5, v6, .int x] [w0, w1, w2] h Q = ex_ X d 60 258 [v0, v1, v2, v3, v4, v5, v6, .int x] [.int x, w0, w1, w2] h Q := ex_nx (show mx_at 60 256 = some (.iload 7, 2) by decide +kernel) rfl
set_option maxRecDepth 20000 in
theorem i60_258 : ex_ X d 60 258 [v0, v1, v2, v3, v4, v5, v6, v7] [.int y, .int x, w0, w1] h Q = if ¬ x = y then ex_ X d 60 265 [v0, v1, v2, v3, v4, v5, v6, v7] [w0, w1] h Q else ex_ X d 60 261 [v0, v1, v2, v3, v4, v5, v6, v7] [w0, w1] h Q := (R_br (show mx_at 60 258 = some (.if_icmp .ne 7, 3) by decide +kernel) rfl rfl).trans mx_ite
set_option maxRecDepth 20000 in
theorem i60_261 : ex_ X d 60 261 [v0, v1, v2, v3, v4, v5, v6, v7] [w0, w1] h Q = ex_ X d 60 262 [v0, v1, v2, v3, v4, v5, v6, v7] [.int 1, w0, w1] h Q := R_iconst (show mx_at 60 261 = some (.iconst 1, 1) by decide +kernel) (by decide)
set_option maxRecDepth 20000 in
theorem i60_262 : ex_ X d 60 262 [v0, v1, v2, v3, v4, v5, v6, v7] [w0, w1, w2] h Q = ex_ X d 60 266 [v0, v1, v2, v3, v4, v5, v6, v7] [w0, w1, w2] h Q := R_to (show mx_at 60 262 = some (.goto 4, 3) by decide +kernel) rfl rfl
set_option maxRecDepth 20000 in
theorem i60_265 : ex_ X d 60 265 [v0, v1, v2, v3, v4, v5, v6, v7] [w0, w1] h Q = ex_ X d 60 266 [v0, v1, v2, v3, v4, v5, v6, v7] [.int 0, w0, w1] h Q := R_iconst (show mx_at 60 265 = some (.iconst 0, 1) by decide +kernel) (by decide)
set_option maxRecDepth 20000 in
theorem i60_266 : ex_ X d 60 266 [v0, v1, v2, v3, v4, v5, v6, v7] [.int x, .int i, .ref a] h Q = (ik_ h a i = true ∧ ex_ X d 60 267 [v0, v1, v2, v3, v4, v5, v6, v7] [] (is_ h a i x) Q) := R_iast (show mx_at 60 266 = some (.iastore, 1) by decide +kernel)
set_option maxRecDepth 20000 in
theorem i60_267 : ex_ X d 60 267 [v0, v1, v2, v3, v4, v5, v6, v7] [] h Q = ex_ X d 60 405 [v0, v1, v2, v3, v4, v5, v6, v7] [] h Q := R_to (show mx_at 60 267 = some (.goto 138, 3) by decide +kernel) rfl rfl
set_option maxRecDepth 20000 in
theorem i60_270 : ex_ X d 60 270 [.ref a, v1, v2, v3, v4, v5, v6, v7] [] h Q = ex_ X d 60 271 [.ref a, v1, v2, v3, v4, v5, v6, v7] [.ref a] h Q := ex_nx (show mx_at 60 270 = some (.aload_n 0, 1) by decide +kernel) rfl
set_option maxRecDepth 20000 in
theorem i60_271 : ex_ X d 60 271 [v0, v1, v2, v3, v4, v5, v6, v7] [.ref a] h Q = (gk_ h a 7 [(10, 0)] = true ∧ ex_ X d 60 274 [v0, v1, v2, v3, v4, v5, v6, v7] [gv_ h a 7] h Q) := R_getf (show mx_at 60 271 = some (.getfield 44, 3) by decide +kernel) (mx_fdo ow60 fd100044)
set_option maxRecDepth 20000 in
theorem i60_274 : ex_ X d 60 274 [v0, v1, v2, v3, v4, .int x, v6, v7] [w0] h Q = ex_ X d 60 276 [v0, v1, v2, v3, v4, .int x, v6, v7] [.int x, w0] h Q := ex_nx (show mx_at 60 274 = some (.iload 5, 2) by decide +kernel) rfl
set_option maxRecDepth 20000 in
theorem i60_276 : ex_ X d 60 276 [v0, v1, v2, v3, v4, v5, .int x, v7] [w0, w1] h Q = ex_ X d 60 278 [v0, v1, v2, v3, v4, v5, .int x, v7] [.int x, w0, w1] h Q := ex_nx (show mx_at 60 276 = some (.iload 6, 2) by decide +kernel) rfl
set_option maxRecDepth 20000 in
theorem i60_278 : ex_ X d 60 278 [v0, v1, v2, v3, v4, v5, v6, .int x] [w0, w1, w2] h Q = ex_ X d 60 280 [v0, v1, v2, v3, v4, v5, v6, .int x] [.int x, w0, w1, w2] h Q := ex_nx (show mx_at 60 278 = some (.iload 7, 2) by decide +kernel) rfl
set_option maxRecDepth 20000 in
theorem i60_280 : ex_ X d 60 280 [v0, v1, v2, v3, v4, v5, v6, v7] [.int y, .int x, w0, w1] h Q = if x ≤ y then ex_ X d 60 287 [v0, v1, v2, v3, v4, v5, v6, v7] [w0, w1] h Q else ex_ X d 60 283 [v0, v1, v2, v3, v4, v5, v6, v7] [w0, w1] h Q := (R_br (show mx_at 60 280 = some (.if_icmp .le 7, 3) by decide +kernel) rfl rfl).trans mx_ite
set_option maxRecDepth 20000 in
theorem i60_283 : ex_ X d 60 283 [v0, v1, v2, v3, v4, v5, v6, v7] [w0, w1] h Q = ex_ X d 60 284 [v0, v1, v2, v3, v4, v5, v6, v7] [.int 1, w0, w1] h Q := R_iconst (show mx_at 60 283 = some (.iconst 1, 1) by decide +kernel) (by decide)
set_option maxRecDepth 20000 in
theorem i60_284 : ex_ X d 60 284 [v0, v1, v2, v3, v4, v5, v6, v7] [w0, w1, w2] h Q = ex_ X d 60 288 [v0, v1, v2, v3, v4, v5, v6, v7] [w0, w1, w2] h Q := R_to (show mx_at 60 284 = some (.goto 4, 3) by decide +kernel) rfl rfl
set_option maxRecDepth 20000 in
theorem i60_287 : ex_ X d 60 287 [v0, v1, v2, v3, v4, v5, v6, v7] [w0, w1] h Q = ex_ X d 60 288 [v0, v1, v2, v3, v4, v5, v6, v7] [.int 0, w0, w1] h Q := R_iconst (show mx_at 60 287 = some (.iconst 0, 1) by decide +kernel) (by decide)
set_option maxRecDepth 20000 in
theorem i60_288 : ex_ X d 60 288 [v0, v1, v2, v3, v4, v5, v6, v7] [.int x, .int i, .ref a] h Q = (ik_ h a i = true ∧ ex_ X d 60 289 [v0, v1, v2, v3, v4, v5, v6, v7] [] (is_ h a i x) Q) := R_iast (show mx_at 60 288 = some (.iastore, 1) by decide +kernel)
set_option maxRecDepth 20000 in
theorem i60_289 : ex_ X d 60 289 [v0, v1, v2, v3, v4, v5, v6, v7] [] h Q = ex_ X d 60 405 [v0, v1, v2, v3, v4, v5, v6, v7] [] h Q := R_to (show mx_at 60 289 = some (.goto 116, 3) by decide +kernel) rfl rfl
set_option maxRecDepth 20000 in
theorem i60_292 : ex_ X d 60 292 [.ref a, v1, v2, v3, v4, v5, v6, v7] [] h Q = ex_ X d 60 293 [.ref a, v1, v2, v3, v4, v5, v6, v7] [.ref a] h Q := ex_nx (show mx_at 60 292 = some (.aload_n 0, 1) by decide +kernel) rfl
set_option maxRecDepth 20000 in
theorem i60_293 : ex_ X d 60 293 [v0, v1, v2, v3, v4, v5, v6, v7] [.ref a] h Q = (gk_ h a 7 [(10, 0)] = true ∧ ex_ X d 60 296 [v0, v1, v2, v3, v4, v5, v6, v7] [gv_ h a 7] h Q) := R_getf (show mx_at 60 293 = some (.getfield 44, 3) by decide +kernel) (mx_fdo ow60 fd100044)
set_option maxRecDepth 20000 in
theorem i60_296 : ex_ X d 60 296 [v0, v1, v2, v3, v4, .int x, v6, v7] [w0] h Q = ex_ X d 60 298 [v0, v1, v2, v3, v4, .int x, v6, v7] [.int x, w0] h Q := ex_nx (show mx_at 60 296 = some (.iload 5, 2) by decide +kernel) rfl
set_option maxRecDepth 20000 in
theorem i60_298 : ex_ X d 60 298 [v0, v1, v2, v3, v4, v5, .int x, v7] [w0, w1] h Q = ex_ X d 60 300 [v0, v1, v2, v3, v4, v5, .int x, v7] [.int x, w0, w1] h Q := ex_nx (show mx_at 60 298 = some (.iload 6, 2) by decide +kernel) rfl
set_option maxRecDepth 20000 in
theorem i60_300 : ex_ X d 60 300 [v0, v1, v2, v3, v4, v5, v6, .int x] [w0, w1, w2] h Q = ex_ X d 60 302 [v0, v1, v2, v3, v4, v5, v6, .int x] [.int x, w0, w1, w2] h Q := ex_nx (show mx_at 60 300 = some (.iload 7, 2) by decide +kernel) rfl
set_option maxRecDepth 20000 in
theorem i60_302 : ex_ X d 60 302 [v0, v1, v2, v3, v4, v5, v6, v7] [.int y, .int x, w0, w1] h Q = ex_ X d 60 303 [v0, v1, v2, v3, v4, v5, v6, v7] [.int (x + y), w0, w1] h Q := ex_nx (show mx_at 60 302 = some (.iadd, 1) by decide +kernel) rfl
set_option maxRecDepth 20000 in
theorem i60_303 : ex_ X d 60 303 [v0, v1, v2, v3, v4, v5, v6, v7] [.int x, .int i, .ref a] h Q = (ik_ h a i = true ∧ ex_ X d 60 304 [v0, v1, v2, v3, v4, v5, v6, v7] [] (is_ h a i x) Q) := R_iast (show mx_at 60 303 = some (.iastore, 1) by decide +kernel)
set_option maxRecDepth 20000 in
theorem i60_304 : ex_ X d 60 304 [v0, v1, v2, v3, v4, v5, v6, v7] [] h Q = ex_ X d 60 405 [v0, v1, v2, v3, v4, v5, v6, v7] [] h Q := R_to (show mx_at 60 304 = some (.goto 101, 3) by decide +kernel) rfl rfl
set_option maxRecDepth 20000 in
theorem i60_307 : ex_ X d 60 307 [.ref a, v1, v2, v3, v4, v5, v6, v7] [] h Q = ex_ X d 60 308 [.ref a, v1, v2, v3, v4, v5, v6, v7] [.ref a] h Q := ex_nx (show mx_at 60 307 = some (.aload_n 0, 1) by decide +kernel) rfl
set_option maxRecDepth 20000 in
theorem i60_308 : ex_ X d 60 308 [v0, v1, v2, v3, v4, v5, v6, v7] [.ref a] h Q = (gk_ h a 7 [(10, 0)] = true ∧ ex_ X d 60 311 [v0, v1, v2, v3, v4, v5, v6, v7] [gv_ h a 7] h Q) := R_getf (show mx_at 60 308 = some (.getfield 44, 3) by decide +kernel) (mx_fdo ow60 fd100044)
set_option maxRecDepth 20000 in
theorem i60_311 : ex_ X d 60 311 [v0, v1, v2, v3, v4, .int x, v6, v7] [w0] h Q = ex_ X d 60 313 [v0, v1, v2, v3, v4, .int x, v6, v7] [.int x, w0] h Q := ex_nx (show mx_at 60 311 = some (.iload 5, 2) by decide +kernel) rfl
set_option maxRecDepth 20000 in
theorem i60_313 : ex_ X d 60 313 [v0, v1, v2, v3, v4, v5, .int x, v7] [w0, w1] h Q = ex_ X d 60 315 [v0, v1, v2, v3, v4, v5, .int x, v7] [.int x, w0, w1] h Q := ex_nx (show mx_at 60 313 = some (.iload 6, 2) by decide +kernel) rfl
set_option maxRecDepth 20000 in
theorem i60_315 : ex_ X d 60 315 [v0, v1, v2, v3, v4, v5, v6, .int x] [w0, w1, w2] h Q = ex_ X d 60 317 [v0, v1, v2, v3, v4, v5, v6, .int x] [.int x, w0, w1, w2] h Q := ex_nx (show mx_at 60 315 = some (.iload 7, 2) by decide +kernel) rfl
set_option maxRecDepth 20000 in
theorem i60_317 : ex_ X d 60 317 [v0, v1, v2, v3, v4, v5, v6, v7] [.int y, .int x, w0, w1] h Q = ex_ X d 60 318 [v0, v1, v2, v3, v4, v5, v6, v7] [.int (x - y), w0, w1] h Q := ex_nx (show mx_at 60 317 = some (.isub, 1) by decide +kernel) rfl
set_option maxRecDepth 20000 in
theorem i60_318 : ex_ X d 60 318 [v0, v1, v2, v3, v4, v5, v6, v7] [.int x, .int i, .ref a] h Q = (ik_ h a i = true ∧ ex_ X d 60 319 [v0, v1, v2, v3, v4, v5, v6, v7] [] (is_ h a i x) Q) := R_iast (show mx_at 60 318 = some (.iastore, 1) by decide +kernel)
set_option maxRecDepth 20000 in
theorem i60_319 : ex_ X d 60 319 [v0, v1, v2, v3, v4, v5, v6, v7] [] h Q = ex_ X d 60 405 [v0, v1, v2, v3, v4, v5, v6, v7] [] h Q := R_to (show mx_at 60 319 = some (.goto 86, 3) by decide +kernel) rfl rfl
set_option maxRecDepth 20000 in
theorem i60_322 : ex_ X d 60 322 [.ref a, v1, v2, v3, v4, v5, v6, v7] [] h Q = ex_ X d 60 323 [.ref a, v1, v2, v3, v4, v5, v6, v7] [.ref a] h Q := ex_nx (show mx_at 60 322 = some (.aload_n 0, 1) by decide +kernel) rfl
set_option maxRecDepth 20000 in
theorem i60_323 : ex_ X d 60 323 [v0, v1, v2, v3, v4, v5, v6, v7] [.ref a] h Q = (gk_ h a 7 [(10, 0)] = true ∧ ex_ X d 60 326 [v0, v1, v2, v3, v4, v5, v6, v7] [gv_ h a 7] h Q) := R_getf (show mx_at 60 323 = some (.getfield 44, 3) by decide +kernel) (mx_fdo ow60 fd100044)
set_option maxRecDepth 20000 in
theorem i60_326 : ex_ X d 60 326 [v0, v1, v2, v3, v4, .int x, v6, v7] [w0] h Q = ex_ X d 60 328 [v0, v1, v2, v3, v4, .int x, v6, v7] [.int x, w0] h Q := ex_nx (show mx_at 60 326 = some (.iload 5, 2) by decide +kernel) rfl
set_option maxRecDepth 20000 in
theorem i60_328 : ex_ X d 60 328 [v0, v1, v2, v3, v4, v5, .int x, v7] [w0, w1] h Q = ex_ X d 60 330 [v0, v1, v2, v3, v4, v5, .int x, v7] [.int x, w0, w1] h Q := ex_nx (show mx_at 60 328 = some (.iload 6, 2) by decide +kernel) rfl
set_option maxRecDepth 20000 in
theorem i60_330 : ex_ X d 60 330 [v0, v1, v2, v3, v4, v5, v6, .int x] [w0, w1, w2] h Q = ex_ X d 60 332 [v0, v1, v2, v3, v4, v5, v6, .int x] [.int x, w0, w1, w2] h Q := ex_nx (show mx_at 60 330 = some (.iload 7, 2) by decide +kernel) rfl
set_option maxRecDepth 20000 in
theorem i60_332 : ex_ X d 60 332 [v0, v1, v2, v3, v4, v5, v6, v7] [.int y, .int x, w0, w1] h Q = ex_ X d 60 333 [v0, v1, v2, v3, v4, v5, v6, v7] [.int (x * y), w0, w1] h Q := ex_nx (show mx_at 60 332 = some (.imul, 1) by decide +kernel) rfl
set_option maxRecDepth 20000 in
theorem i60_333 : ex_ X d 60 333 [v0, v1, v2, v3, v4, v5, v6, v7] [.int x, .int i, .ref a] h Q = (ik_ h a i = true ∧ ex_ X d 60 334 [v0, v1, v2, v3, v4, v5, v6, v7] [] (is_ h a i x) Q) := R_iast (show mx_at 60 333 = some (.iastore, 1) by decide +kernel)
set_option maxRecDepth 20000 in
theorem i60_334 : ex_ X d 60 334 [v0, v1, v2, v3, v4, v5, v6, v7] [] h Q = ex_ X d 60 405 [v0, v1, v2, v3, v4, v5, v6, v7] [] h Q := R_to (show mx_at 60 334 = some (.goto 71, 3) by decide +kernel) rfl rfl
set_option maxRecDepth 20000 in
theorem i60_337 : ex_ X d 60 337 [.ref a, v1, v2, v3, v4, v5, v6, v7] [] h Q = ex_ X d 60 338 [.ref a, v1, v2, v3, v4, v5, v6, v7] [.ref a] h Q := ex_nx (show mx_at 60 337 = some (.aload_n 0, 1) by decide +kernel) rfl
set_option maxRecDepth 20000 in
theorem i60_338 : ex_ X d 60 338 [v0, v1, v2, v3, v4, v5, v6, v7] [.ref a] h Q = (gk_ h a 7 [(10, 0)] = true ∧ ex_ X d 60 341 [v0, v1, v2, v3, v4, v5, v6, v7] [gv_ h a 7] h Q) := R_getf (show mx_at 60 338 = some (.getfield 44, 3) by decide +kernel) (mx_fdo ow60 fd100044)
set_option maxRecDepth 20000 in
theorem i60_341 : ex_ X d 60 341 [v0, v1, v2, v3, v4, .int x, v6, v7] [w0] h Q = ex_ X d 60 343 [v0, v1, v2, v3, v4, .int x, v6, v7] [.int x, w0] h Q := ex_nx (show mx_at 60 341 = some (.iload 5, 2) by decide +kernel) rfl
set_option maxRecDepth 20000 in
theorem i60_343 : ex_ X d 60 343 [v0, v1, v2, v3, v4, v5, v6, .int x] [w0, w1] h Q = ex_ X d 60 345 [v0, v1, v2, v3, v4, v5, v6, .int x] [.int x, w0, w1] h Q := ex_nx (show mx_at 60 343 = some (.iload 7, 2) by decide +kernel) rfl
set_option maxRecDepth 20000 in
theorem i60_345 : ex_ X d 60 345 [v0, v1, v2, v3, v4, v5, v6, v7] [.int x, w0, w1] h Q = if ¬ x = 0 then ex_ X d 60 352 [v0, v1, v2, v3, v4, v5, v6, v7] [w0, w1] h Q else ex_ X d 60 348 [v0, v1, v2, v3, v4, v5, v6, v7] [w0, w1] h Q := (R_br (show mx_at 60 345 = some (.ifCond .ne 7, 3) by decide +kernel) rfl rfl).trans mx_ite
set_option maxRecDepth 20000 in
theorem i60_348 : ex_ X d 60 348 [v0, v1, v2, v3, v4, v5, v6, v7] [w0, w1] h Q = ex_ X d 60 349 [v0, v1, v2, v3, v4, v5, v6, v7] [.int 0, w0, w1] h Q := R_iconst (show mx_at 60 348 = some (.iconst 0, 1) by decide +kernel) (by decide)
set_option maxRecDepth 20000 in
theorem i60_349 : ex_ X d 60 349 [v0, v1, v2, v3, v4, v5, v6, v7] [w0, w1, w2] h Q = ex_ X d 60 357 [v0, v1, v2, v3, v4, v5, v6, v7] [w0, w1, w2] h Q := R_to (show mx_at 60 349 = some (.goto 8, 3) by decide +kernel) rfl rfl
set_option maxRecDepth 20000 in
theorem i60_352 : ex_ X d 60 352 [v0, v1, v2, v3, v4, v5, .int x, v7] [w0, w1] h Q = ex_ X d 60 354 [v0, v1, v2, v3, v4, v5, .int x, v7] [.int x, w0, w1] h Q := ex_nx (show mx_at 60 352 = some (.iload 6, 2) by decide +kernel) rfl
set_option maxRecDepth 20000 in
theorem i60_354 : ex_ X d 60 354 [v0, v1, v2, v3, v4, v5, v6, .int x] [w0, w1, w2] h Q = ex_ X d 60 356 [v0, v1, v2, v3, v4, v5, v6, .int x] [.int x, w0, w1, w2] h Q := ex_nx (show mx_at 60 354 = some (.iload 7, 2) by decide +kernel) rfl
set_option maxRecDepth 20000 in
theorem i60_356 : ex_ X d 60 356 [v0, v1, v2, v3, v4, v5, v6, v7] [.int y, .int x, w0, w1] h Q = (y ≠ 0 ∧ ex_ X d 60 357 [v0, v1, v2, v3, v4, v5, v6, v7] [.int (x / y), w0, w1] h Q) := R_div (show mx_at 60 356 = some (.idiv, 1) by decide +kernel)
set_option maxRecDepth 20000 in
theorem i60_357 : ex_ X d 60 357 [v0, v1, v2, v3, v4, v5, v6, v7] [.int x, .int i, .ref a] h Q = (ik_ h a i = true ∧ ex_ X d 60 358 [v0, v1, v2, v3, v4, v5, v6, v7] [] (is_ h a i x) Q) := R_iast (show mx_at 60 357 = some (.iastore, 1) by decide +kernel)
set_option maxRecDepth 20000 in
theorem i60_358 : ex_ X d 60 358 [v0, v1, v2, v3, v4, v5, v6, v7] [] h Q = ex_ X d 60 405 [v0, v1, v2, v3, v4, v5, v6, v7] [] h Q := R_to (show mx_at 60 358 = some (.goto 47, 3) by decide +kernel) rfl rfl
set_option maxRecDepth 20000 in
theorem i60_361 : ex_ X d 60 361 [.ref a, v1, v2, v3, v4, v5, v6, v7] [] h Q = ex_ X d 60 362 [.ref a, v1, v2, v3, v4, v5, v6, v7] [.ref a] h Q := ex_nx (show mx_at 60 361 = some (.aload_n 0, 1) by decide +kernel) rfl
set_option maxRecDepth 20000 in
theorem i60_362 : ex_ X d 60 362 [v0, v1, v2, v3, v4, v5, v6, v7] [.ref a] h Q = (gk_ h a 7 [(10, 0)] = true ∧ ex_ X d 60 365 [v0, v1, v2, v3, v4, v5, v6, v7] [gv_ h a 7] h Q) := R_getf (show mx_at 60 362 = some (.getfield 44, 3) by decide +kernel) (mx_fdo ow60 fd100044)
set_option maxRecDepth 20000 in
theorem i60_365 : ex_ X d 60 365 [v0, v1, v2, v3, v4, .int x, v6, v7] [w0] h Q = ex_ X d 60 367 [v0, v1, v2, v3, v4, .int x, v6, v7] [.int x, w0] h Q := ex_nx (show mx_at 60 365 = some (.iload 5, 2) by decide +kernel) rfl
set_option maxRecDepth 20000 in
theorem i60_367 : ex_ X d 60 367 [v0, v1, v2, v3, v4, v5, v6, .int x] [w0, w1] h Q = ex_ X d 60 369 [v0, v1, v2, v3, v4, v5, v6, .int x] [.int x, w0, w1] h Q := ex_nx (show mx_at 60 367 = some (.iload 7, 2) by decide +kernel) rfl
set_option maxRecDepth 20000 in
theorem i60_369 : ex_ X d 60 369 [v0, v1, v2, v3, v4, v5, v6, v7] [.int x, w0, w1] h Q = if ¬ x = 0 then ex_ X d 60 376 [v0, v1, v2, v3, v4, v5, v6, v7] [w0, w1] h Q else ex_ X d 60 372 [v0, v1, v2, v3, v4, v5, v6, v7] [w0, w1] h Q := (R_br (show mx_at 60 369 = some (.ifCond .ne 7, 3) by decide +kernel) rfl rfl).trans mx_ite
set_option maxRecDepth 20000 in
theorem i60_372 : ex_ X d 60 372 [v0, v1, v2, v3, v4, v5, v6, v7] [w0, w1] h Q = ex_ X d 60 373 [v0, v1, v2, v3, v4, v5, v6, v7] [.int 0, w0, w1] h Q := R_iconst (show mx_at 60 372 = some (.iconst 0, 1) by decide +kernel) (by decide)
set_option maxRecDepth 20000 in
theorem i60_373 : ex_ X d 60 373 [v0, v1, v2, v3, v4, v5, v6, v7] [w0, w1, w2] h Q = ex_ X d 60 381 [v0, v1, v2, v3, v4, v5, v6, v7] [w0, w1, w2] h Q := R_to (show mx_at 60 373 = some (.goto 8, 3) by decide +kernel) rfl rfl
set_option maxRecDepth 20000 in
theorem i60_376 : ex_ X d 60 376 [v0, v1, v2, v3, v4, v5, .int x, v7] [w0, w1] h Q = ex_ X d 60 378 [v0, v1, v2, v3, v4, v5, .int x, v7] [.int x, w0, w1] h Q := ex_nx (show mx_at 60 376 = some (.iload 6, 2) by decide +kernel) rfl
set_option maxRecDepth 20000 in
theorem i60_378 : ex_ X d 60 378 [v0, v1, v2, v3, v4, v5, v6, .int x] [w0, w1, w2] h Q = ex_ X d 60 380 [v0, v1, v2, v3, v4, v5, v6, .int x] [.int x, w0, w1, w2] h Q := ex_nx (show mx_at 60 378 = some (.iload 7, 2) by decide +kernel) rfl
set_option maxRecDepth 20000 in
theorem i60_380 : ex_ X d 60 380 [v0, v1, v2, v3, v4, v5, v6, v7] [.int y, .int x, w0, w1] h Q = (y ≠ 0 ∧ ex_ X d 60 381 [v0, v1, v2, v3, v4, v5, v6, v7] [.int (x - x / y * y), w0, w1] h Q) := R_rem (show mx_at 60 380 = some (.irem, 1) by decide +kernel)
set_option maxRecDepth 20000 in
theorem i60_381 : ex_ X d 60 381 [v0, v1, v2, v3, v4, v5, v6, v7] [.int x, .int i, .ref a] h Q = (ik_ h a i = true ∧ ex_ X d 60 382 [v0, v1, v2, v3, v4, v5, v6, v7] [] (is_ h a i x) Q) := R_iast (show mx_at 60 381 = some (.iastore, 1) by decide +kernel)
set_option maxRecDepth 20000 in
theorem i60_382 : ex_ X d 60 382 [v0, v1, v2, v3, v4, v5, v6, v7] [] h Q = ex_ X d 60 405 [v0, v1, v2, v3, v4, v5, v6, v7] [] h Q := R_to (show mx_at 60 382 = some (.goto 23, 3) by decide +kernel) rfl rfl
set_option maxRecDepth 20000 in
theorem i60_385 : ex_ X d 60 385 [.ref a, v1, v2, v3, v4, v5, v6, v7] [] h Q = ex_ X d 60 386 [.ref a, v1, v2, v3, v4, v5, v6, v7] [.ref a] h Q := ex_nx (show mx_at 60 385 = some (.aload_n 0, 1) by decide +kernel) rfl
set_option maxRecDepth 20000 in
theorem i60_386 : ex_ X d 60 386 [v0, v1, v2, v3, v4, v5, v6, v7] [.ref a] h Q = (gk_ h a 7 [(10, 0)] = true ∧ ex_ X d 60 389 [v0, v1, v2, v3, v4, v5, v6, v7] [gv_ h a 7] h Q) := R_getf (show mx_at 60 386 = some (.getfield 44, 3) by decide +kernel) (mx_fdo ow60 fd100044)
set_option maxRecDepth 20000 in
theorem i60_389 : ex_ X d 60 389 [v0, v1, v2, v3, v4, .int x, v6, v7] [w0] h Q = ex_ X d 60 391 [v0, v1, v2, v3, v4, .int x, v6, v7] [.int x, w0] h Q := ex_nx (show mx_at 60 389 = some (.iload 5, 2) by decide +kernel) rfl
set_option maxRecDepth 20000 in
theorem i60_391 : ex_ X d 60 391 [v0, v1, v2, v3, v4, v5, .int x, v7] [w0, w1] h Q = ex_ X d 60 393 [v0, v1, v2, v3, v4, v5, .int x, v7] [.int x, w0, w1] h Q := ex_nx (show mx_at 60 391 = some (.iload 6, 2) by decide +kernel) rfl
set_option maxRecDepth 20000 in
theorem i60_393 : ex_ X d 60 393 [v0, v1, v2, v3, v4, v5, v6, v7] [.int x, w0, w1] h Q = if ¬ x = 0 then ex_ X d 60 400 [v0, v1, v2, v3, v4, v5, v6, v7] [w0, w1] h Q else ex_ X d 60 396 [v0, v1, v2, v3, v4, v5, v6, v7] [w0, w1] h Q := (R_br (show mx_at 60 393 = some (.ifCond .ne 7, 3) by decide +kernel) rfl rfl).trans mx_ite
set_option maxRecDepth 20000 in
theorem i60_396 : ex_ X d 60 396 [v0, v1, v2, v3, v4, v5, v6, v7] [w0, w1] h Q = ex_ X d 60 397 [v0, v1, v2, v3, v4, v5, v6, v7] [.int 1, w0, w1] h Q := R_iconst (show mx_at 60 396 = some (.iconst 1, 1) by decide +kernel) (by decide)
set_option maxRecDepth 20000 in
theorem i60_397 : ex_ X d 60 397 [v0, v1, v2, v3, v4, v5, v6, v7] [w0, w1, w2] h Q = ex_ X d 60 401 [v0, v1, v2, v3, v4, v5, v6, v7] [w0, w1, w2] h Q := R_to (show mx_at 60 397 = some (.goto 4, 3) by decide +kernel) rfl rfl
set_option maxRecDepth 20000 in
theorem i60_400 : ex_ X d 60 400 [v0, v1, v2, v3, v4, v5, v6, v7] [w0, w1] h Q = ex_ X d 60 401 [v0, v1, v2, v3, v4, v5, v6, v7] [.int 0, w0, w1] h Q := R_iconst (show mx_at 60 400 = some (.iconst 0, 1) by decide +kernel) (by decide)
set_option maxRecDepth 20000 in
theorem i60_401 : ex_ X d 60 401 [v0, v1, v2, v3, v4, v5, v6, v7] [.int x, .int i, .ref a] h Q = (ik_ h a i = true ∧ ex_ X d 60 402 [v0, v1, v2, v3, v4, v5, v6, v7] [] (is_ h a i x) Q) := R_iast (show mx_at 60 401 = some (.iastore, 1) by decide +kernel)
set_option maxRecDepth 20000 in
theorem i60_402 : ex_ X d 60 402 [v0, v1, v2, v3, v4, v5, v6, v7] [] h Q = ex_ X d 60 405 [v0, v1, v2, v3, v4, v5, v6, v7] [] h Q := R_to (show mx_at 60 402 = some (.goto 3, 3) by decide +kernel) rfl rfl
set_option maxRecDepth 20000 in
theorem i60_405 : ex_ X d 60 405 [v0, v1, v2, v3, v4, .int x, v6, v7] [] h Q = (mx_nl v4 = true ∧ ex_ X d 60 408 [v0, v1, v2, v3, v4, .int (x + 1), v6, v7] [] h Q) := R_iinc (n := 5) (c := 1) (show mx_at 60 405 = some (.iinc 5 1, 3) by decide +kernel) rfl
set_option maxRecDepth 20000 in
theorem i60_408 : ex_ X d 60 408 [v0, v1, v2, v3, v4, v5, v6, v7] [] h Q = ex_ X d 60 32 [v0, v1, v2, v3, v4, v5, v6, v7] [] h Q := R_to (show mx_at 60 408 = some (.goto (-376), 3) by decide +kernel) rfl rfl
set_option maxRecDepth 20000 in
theorem i60_411 : ex_ X d 60 411 [.ref a, v1, v2, v3, v4, v5, v6, v7] [] h Q = ex_ X d 60 412 [.ref a, v1, v2, v3, v4, v5, v6, v7] [.ref a] h Q := ex_nx (show mx_at 60 411 = some (.aload_n 0, 1) by decide +kernel) rfl
set_option maxRecDepth 20000 in
theorem i60_412 : ex_ X d 60 412 [v0, v1, v2, v3, v4, v5, v6, v7] [.ref a] h Q = (gk_ h a 9 [(10, 0)] = true ∧ ex_ X d 60 415 [v0, v1, v2, v3, v4, v5, v6, v7] [gv_ h a 9] h Q) := R_getf (show mx_at 60 412 = some (.getfield 13, 3) by decide +kernel) (mx_fdo ow60 fd100013)
set_option maxRecDepth 20000 in
theorem i60_415 : ex_ X d 60 415 [v0, v1, v2, v3, v4, v5, v6, v7] [.int x] h Q = if 0 ≤ x then ex_ X d 60 422 [v0, v1, v2, v3, v4, v5, v6, v7] [] h Q else ex_ X d 60 418 [v0, v1, v2, v3, v4, v5, v6, v7] [] h Q := (R_br (show mx_at 60 415 = some (.ifCond .ge 7, 3) by decide +kernel) rfl rfl).trans mx_ite
set_option maxRecDepth 20000 in
theorem i60_418 : ex_ X d 60 418 [v0, v1, v2, v3, v4, v5, v6, v7] [] h Q = ex_ X d 60 419 [v0, v1, v2, v3, v4, v5, v6, v7] [.int 0] h Q := R_iconst (show mx_at 60 418 = some (.iconst 0, 1) by decide +kernel) (by decide)
set_option maxRecDepth 20000 in
theorem i60_419 : ex_ X d 60 419 [v0, v1, v2, v3, v4, v5, v6, v7] [w0] h Q = ex_ X d 60 431 [v0, v1, v2, v3, v4, v5, v6, v7] [w0] h Q := R_to (show mx_at 60 419 = some (.goto 12, 3) by decide +kernel) rfl rfl
set_option maxRecDepth 20000 in
theorem i60_422 : ex_ X d 60 422 [.ref a, v1, v2, v3, v4, v5, v6, v7] [] h Q = ex_ X d 60 423 [.ref a, v1, v2, v3, v4, v5, v6, v7] [.ref a] h Q := ex_nx (show mx_at 60 422 = some (.aload_n 0, 1) by decide +kernel) rfl
set_option maxRecDepth 20000 in
theorem i60_423 : ex_ X d 60 423 [v0, v1, v2, v3, v4, v5, v6, v7] [.ref a] h Q = (gk_ h a 7 [(10, 0)] = true ∧ ex_ X d 60 426 [v0, v1, v2, v3, v4, v5, v6, v7] [gv_ h a 7] h Q) := R_getf (show mx_at 60 423 = some (.getfield 44, 3) by decide +kernel) (mx_fdo ow60 fd100044)
set_option maxRecDepth 20000 in
theorem i60_426 : ex_ X d 60 426 [.ref a, v1, v2, v3, v4, v5, v6, v7] [w0] h Q = ex_ X d 60 427 [.ref a, v1, v2, v3, v4, v5, v6, v7] [.ref a, w0] h Q := ex_nx (show mx_at 60 426 = some (.aload_n 0, 1) by decide +kernel) rfl
set_option maxRecDepth 20000 in
theorem i60_427 : ex_ X d 60 427 [v0, v1, v2, v3, v4, v5, v6, v7] [.ref a, w0] h Q = (gk_ h a 9 [(10, 0)] = true ∧ ex_ X d 60 430 [v0, v1, v2, v3, v4, v5, v6, v7] [gv_ h a 9, w0] h Q) := R_getf (show mx_at 60 427 = some (.getfield 13, 3) by decide +kernel) (mx_fdo ow60 fd100013)
set_option maxRecDepth 20000 in
theorem i60_430 : ex_ X d 60 430 [v0, v1, v2, v3, v4, v5, v6, v7] [.int i, .ref a] h Q = (ik_ h a i = true ∧ ex_ X d 60 431 [v0, v1, v2, v3, v4, v5, v6, v7] [.int (ia_ h a i)] h Q) := R_iald (show mx_at 60 430 = some (.iaload, 1) by decide +kernel)
set_option maxRecDepth 20000 in
theorem i60_431 : ex_ X d 60 431 [v0, v1, v2, v3, v4, v5, v6, v7] [.int x] h Q = Q (some (.int x)) h := ex_ret (show mx_at 60 431 = some (.ireturn, 1) by decide +kernel) (mx_retI rt60)
theorem i60_e : ev_ X d 60 [.ref a, .int x0, .int x1, .int x2, .int x3] h Q = ex_ X d 60 0 [.ref a, .int x0, .int x1, .int x2, .int x3, .double 0, .double 0, .double 0] [] h Q := by rw [ev_, ml60]; rfl
-- 61 X10_peek
set_option maxRecDepth 20000 in
theorem i61_0 : ex_ X d 61 0 [.ref a] [] h Q = ex_ X d 61 1 [.ref a] [.ref a] h Q := ex_nx (show mx_at 61 0 = some (.aload_n 0, 1) by decide +kernel) rfl
set_option maxRecDepth 20000 in
theorem i61_1 : ex_ X d 61 1 [v0] [.ref a] h Q = (gk_ h a 3 [(10, 0)] = true ∧ ex_ X d 61 4 [v0] [gv_ h a 3] h Q) := R_getf (show mx_at 61 1 = some (.getfield 51, 3) by decide +kernel) (mx_fdo ow61 fd100051)
set_option maxRecDepth 20000 in
theorem i61_4 : ex_ X d 61 4 [.ref a] [w0] h Q = ex_ X d 61 5 [.ref a] [.ref a, w0] h Q := ex_nx (show mx_at 61 4 = some (.aload_n 0, 1) by decide +kernel) rfl
set_option maxRecDepth 20000 in
theorem i61_5 : ex_ X d 61 5 [v0] [.ref a, w0] h Q = (gk_ h a 1 [(10, 0)] = true ∧ ex_ X d 61 8 [v0] [gv_ h a 1, w0] h Q) := R_getf (show mx_at 61 5 = some (.getfield 23, 3) by decide +kernel) (mx_fdo ow61 fd100023)
set_option maxRecDepth 20000 in
theorem i61_8 : ex_ X d 61 8 [v0] [.int y, .int x] h Q = if y ≤ x then ex_ X d 61 40 [v0] [] h Q else ex_ X d 61 11 [v0] [] h Q := (R_br (show mx_at 61 8 = some (.if_icmp .ge 32, 3) by decide +kernel) rfl rfl).trans mx_ite
set_option maxRecDepth 20000 in
theorem i61_11 : ex_ X d 61 11 [.ref a] [] h Q = ex_ X d 61 12 [.ref a] [.ref a] h Q := ex_nx (show mx_at 61 11 = some (.aload_n 0, 1) by decide +kernel) rfl
set_option maxRecDepth 20000 in
theorem i61_12 : ex_ X d 61 12 [v0] [.ref a] h Q = (gk_ h a 3 [(10, 0)] = true ∧ ex_ X d 61 15 [v0] [gv_ h a 3] h Q) := R_getf (show mx_at 61 12 = some (.getfield 51, 3) by decide +kernel) (mx_fdo ow61 fd100051)
set_option maxRecDepth 20000 in
theorem i61_15 : ex_ X d 61 15 [.ref a] [w0] h Q = ex_ X d 61 16 [.ref a] [.ref a, w0] h Q := ex_nx (show mx_at 61 15 = some (.aload_n 0, 1) by decide +kernel) rfl
set_option maxRecDepth 20000 in
theorem i61_16 : ex_ X d 61 16 [v0] [.ref a, w0] h Q = (gk_ h a 0 [(10, 0)] = true ∧ ex_ X d 61 19 [v0] [gv_ h a 0, w0] h Q) := R_getf (show mx_at 61 16 = some (.getfield 16, 3) by decide +kernel) (mx_fdo ow61 fd100016)
set_option maxRecDepth 20000 in
theorem i61_19 : ex_ X d 61 19 [v0] [.ref a, w0] h Q = (gk_ h a 1 [(5, 0)] = true ∧ ex_ X d 61 22 [v0] [gv_ h a 1, w0] h Q) := R_getf (show mx_at 61 19 = some (.getfield 20, 3) by decide +kernel) (mx_fdo ow61 fd100020)
set_option maxRecDepth 20000 in
theorem i61_22 : ex_ X d 61 22 [v0] [.int y, .int x] h Q = if y ≤ x then ex_ X d 61 40 [v0] [] h Q else ex_ X d 61 25 [v0] [] h Q := (R_br (show mx_at 61 22 = some (.if_icmp .ge 18, 3) by decide +kernel) rfl rfl).trans mx_ite
set_option maxRecDepth 20000 in
theorem i61_25 : ex_ X d 61 25 [.ref a] [] h Q = ex_ X d 61 26 [.ref a] [.ref a] h Q := ex_nx (show mx_at 61 25 = some (.aload_n 0, 1) by decide +kernel) rfl
set_option maxRecDepth 20000 in
theorem i61_26 : ex_ X d 61 26 [v0] [.ref a] h Q = (gk_ h a 0 [(10, 0)] = true ∧ ex_ X d 61 29 [v0] [gv_ h a 0] h Q) := R_getf (show mx_at 61 26 = some (.getfield 16, 3) by decide +kernel) (mx_fdo ow61 fd100016)
set_option maxRecDepth 20000 in
theorem i61_29 : ex_ X d 61 29 [v0] [.ref a] h Q = (gk_ h a 0 [(5, 0)] = true ∧ ex_ X d 61 32 [v0] [gv_ h a 0] h Q) := R_getf (show mx_at 61 29 = some (.getfield 54, 3) by decide +kernel) (mx_fdo ow61 fd100054)
set_option maxRecDepth 20000 in
theorem i61_32 : ex_ X d 61 32 [.ref a] [w0] h Q = ex_ X d 61 33 [.ref a] [.ref a, w0] h Q := ex_nx (show mx_at 61 32 = some (.aload_n 0, 1) by decide +kernel) rfl
set_option maxRecDepth 20000 in
theorem i61_33 : ex_ X d 61 33 [v0] [.ref a, w0] h Q = (gk_ h a 3 [(10, 0)] = true ∧ ex_ X d 61 36 [v0] [gv_ h a 3, w0] h Q) := R_getf (show mx_at 61 33 = some (.getfield 51, 3) by decide +kernel) (mx_fdo ow61 fd100051)
set_option maxRecDepth 20000 in
theorem i61_36 : ex_ X d 61 36 [v0] [.int i, .ref a] h Q = (ik_ h a i = true ∧ ex_ X d 61 37 [v0] [.int (ia_ h a i)] h Q) := R_iald (show mx_at 61 36 = some (.iaload, 1) by decide +kernel)
set_option maxRecDepth 20000 in
theorem i61_37 : ex_ X d 61 37 [v0] [w0] h Q = ex_ X d 61 41 [v0] [w0] h Q := R_to (show mx_at 61 37 = some (.goto 4, 3) by decide +kernel) rfl rfl
set_option maxRecDepth 20000 in
theorem i61_40 : ex_ X d 61 40 [v0] [] h Q = ex_ X d 61 41 [v0] [.int (-1)] h Q := R_iconst (show mx_at 61 40 = some (.iconst (-1), 1) by decide +kernel) (by decide)
set_option maxRecDepth 20000 in
theorem i61_41 : ex_ X d 61 41 [v0] [.int x] h Q = Q (some (.int x)) h := ex_ret (show mx_at 61 41 = some (.ireturn, 1) by decide +kernel) (mx_retI rt61)
theorem i61_e : ev_ X d 61 [.ref a] h Q = ex_ X d 61 0 [.ref a] [] h Q := by rw [ev_, ml61]; rfl
-- 62 X10_isDigit
set_option maxRecDepth 20000 in
theorem i62_0 : ex_ X d 62 0 [.int x] [] h Q = ex_ X d 62 1 [.int x] [.int x] h Q := ex_nx (show mx_at 62 0 = some (.iload_n 0, 1) by decide +kernel) rfl
set_option maxRecDepth 20000 in
theorem i62_1 : ex_ X d 62 1 [v0] [w0] h Q = ex_ X d 62 3 [v0] [.int 48, w0] h Q := R_bipush (show mx_at 62 1 = some (.bipush 48, 2) by decide +kernel) (by decide)
set_option maxRecDepth 20000 in
theorem i62_3 : ex_ X d 62 3 [v0] [.int y, .int x] h Q = if x < y then ex_ X d 62 16 [v0] [] h Q else ex_ X d 62 6 [v0] [] h Q := (R_br (show mx_at 62 3 = some (.if_icmp .lt 13, 3) by decide +kernel) rfl rfl).trans mx_ite
set_option maxRecDepth 20000 in
theorem i62_6 : ex_ X d 62 6 [.int x] [] h Q = ex_ X d 62 7 [.int x] [.int x] h Q := ex_nx (show mx_at 62 6 = some (.iload_n 0, 1) by decide +kernel) rfl
set_option maxRecDepth 20000 in
theorem i62_7 : ex_ X d 62 7 [v0] [w0] h Q = ex_ X d 62 9 [v0] [.int 57, w0] h Q := R_bipush (show mx_at 62 7 = some (.bipush 57, 2) by decide +kernel) (by decide)
set_option maxRecDepth 20000 in
theorem i62_9 : ex_ X d 62 9 [v0] [.int y, .int x] h Q = if y < x then ex_ X d 62 16 [v0] [] h Q else ex_ X d 62 12 [v0] [] h Q := (R_br (show mx_at 62 9 = some (.if_icmp .gt 7, 3) by decide +kernel) rfl rfl).trans mx_ite
set_option maxRecDepth 20000 in
theorem i62_12 : ex_ X d 62 12 [v0] [] h Q = ex_ X d 62 13 [v0] [.int 1] h Q := R_iconst (show mx_at 62 12 = some (.iconst 1, 1) by decide +kernel) (by decide)
set_option maxRecDepth 20000 in
theorem i62_13 : ex_ X d 62 13 [v0] [w0] h Q = ex_ X d 62 17 [v0] [w0] h Q := R_to (show mx_at 62 13 = some (.goto 4, 3) by decide +kernel) rfl rfl
set_option maxRecDepth 20000 in
theorem i62_16 : ex_ X d 62 16 [v0] [] h Q = ex_ X d 62 17 [v0] [.int 0] h Q := R_iconst (show mx_at 62 16 = some (.iconst 0, 1) by decide +kernel) (by decide)
set_option maxRecDepth 20000 in
theorem i62_17 (hx : x = 0 ∨ x = 1) : ex_ X d 62 17 [v0] [.int x] h Q = Q (some (.int x)) h := ex_ret (show mx_at 62 17 = some (.ireturn, 1) by decide +kernel) (mx_retZ hx rt62)
theorem i62_e : ev_ X d 62 [.int x0] h Q = ex_ X d 62 0 [.int x0] [] h Q := by rw [ev_, ml62]; rfl
-- 63 X10_levelOf
set_option maxRecDepth 20000 in
theorem i63_0 : ex_ X d 63 0 [.int x] [] h Q = ex_ X d 63 1 [.int x] [.int x] h Q := ex_nx (show mx_at 63 0 = some (.iload_n 0, 1) by decide +kernel) rfl
set_option maxRecDepth 20000 in
theorem i63_1_37 : ex_ X d 63 1 [v0] [.int 37] h Q = ex_ X d 63 100 [v0] [] h Q := R_lsw (off := 99) (show mx_at 63 1 = some (.lookupswitch 101 #[(37, 99), (38, 93), (42, 99), (43, 97), (45, 97), (47, 99), (60, 95), (61, 95), (62, 95), (124, 91)], 91) by decide +kernel) (by decide) (by decide) rfl
set_option maxRecDepth 20000 in
theorem i63_1_38 : ex_ X d 63 1 [v0] [.int 38] h Q = ex_ X d 63 94 [v0] [] h Q := R_lsw (off := 93) (show mx_at 63 1 = some (.lookupswitch 101 #[(37, 99), (38, 93), (42, 99), (43, 97), (45, 97), (47, 99), (60, 95), (61, 95), (62, 95), (124, 91)], 91) by decide +kernel) (by decide) (by decide) rfl
set_option maxRecDepth 20000 in
theorem i63_1_42 : ex_ X d 63 1 [v0] [.int 42] h Q = ex_ X d 63 100 [v0] [] h Q := R_lsw (off := 99) (show mx_at 63 1 = some (.lookupswitch 101 #[(37, 99), (38, 93), (42, 99), (43, 97), (45, 97), (47, 99), (60, 95), (61, 95), (62, 95), (124, 91)], 91) by decide +kernel) (by decide) (by decide) rfl
set_option maxRecDepth 20000 in
theorem i63_1_43 : ex_ X d 63 1 [v0] [.int 43] h Q = ex_ X d 63 98 [v0] [] h Q := R_lsw (off := 97) (show mx_at 63 1 = some (.lookupswitch 101 #[(37, 99), (38, 93), (42, 99), (43, 97), (45, 97), (47, 99), (60, 95), (61, 95), (62, 95), (124, 91)], 91) by decide +kernel) (by decide) (by decide) rfl
set_option maxRecDepth 20000 in
theorem i63_1_45 : ex_ X d 63 1 [v0] [.int 45] h Q = ex_ X d 63 98 [v0] [] h Q := R_lsw (off := 97) (show mx_at 63 1 = some (.lookupswitch 101 #[(37, 99), (38, 93), (42, 99), (43, 97), (45, 97), (47, 99), (60, 95), (61, 95), (62, 95), (124, 91)], 91) by decide +kernel) (by decide) (by decide) rfl
set_option maxRecDepth 20000 in
theorem i63_1_47 : ex_ X d 63 1 [v0] [.int 47] h Q = ex_ X d 63 100 [v0] [] h Q := R_lsw (off := 99) (show mx_at 63 1 = some (.lookupswitch 101 #[(37, 99), (38, 93), (42, 99), (43, 97), (45, 97), (47, 99), (60, 95), (61, 95), (62, 95), (124, 91)], 91) by decide +kernel) (by decide) (by decide) rfl
set_option maxRecDepth 20000 in
theorem i63_1_60 : ex_ X d 63 1 [v0] [.int 60] h Q = ex_ X d 63 96 [v0] [] h Q := R_lsw (off := 95) (show mx_at 63 1 = some (.lookupswitch 101 #[(37, 99), (38, 93), (42, 99), (43, 97), (45, 97), (47, 99), (60, 95), (61, 95), (62, 95), (124, 91)], 91) by decide +kernel) (by decide) (by decide) rfl
set_option maxRecDepth 20000 in
theorem i63_1_61 : ex_ X d 63 1 [v0] [.int 61] h Q = ex_ X d 63 96 [v0] [] h Q := R_lsw (off := 95) (show mx_at 63 1 = some (.lookupswitch 101 #[(37, 99), (38, 93), (42, 99), (43, 97), (45, 97), (47, 99), (60, 95), (61, 95), (62, 95), (124, 91)], 91) by decide +kernel) (by decide) (by decide) rfl
set_option maxRecDepth 20000 in
theorem i63_1_62 : ex_ X d 63 1 [v0] [.int 62] h Q = ex_ X d 63 96 [v0] [] h Q := R_lsw (off := 95) (show mx_at 63 1 = some (.lookupswitch 101 #[(37, 99), (38, 93), (42, 99), (43, 97), (45, 97), (47, 99), (60, 95), (61, 95), (62, 95), (124, 91)], 91) by decide +kernel) (by decide) (by decide) rfl
set_option maxRecDepth 20000 in
theorem i63_1_124 : ex_ X d 63 1 [v0] [.int 124] h Q = ex_ X d 63 92 [v0] [] h Q := R_lsw (off := 91) (show mx_at 63 1 = some (.lookupswitch 101 #[(37, 99), (38, 93), (42, 99), (43, 97), (45, 97), (47, 99), (60, 95), (61, 95), (62, 95), (124, 91)], 91) by decide +kernel) (by decide) (by decide) rfl
set_option maxRecDepth 20000 in
theorem i63_1_d (hx : 37 ≠ x.toInt ∧ 38 ≠ x.toInt ∧ 42 ≠ x.toInt ∧ 43 ≠ x.toInt ∧ 45 ≠ x.toInt ∧ 47 ≠ x.toInt ∧ 60 ≠ x.toInt ∧ 61 ≠ x.toInt ∧ 62 ≠ x.toInt ∧ 124 ≠ x.toInt) : ex_ X d 63 1 [v0] [.int x] h Q = ex_ X d 63 102 [v0] [] h Q := R_lsw (off := 101) (show mx_at 63 1 = some (.lookupswitch 101 #[(37, 99), (38, 93), (42, 99), (43, 97), (45, 97), (47, 99), (60, 95), (61, 95), (62, 95), (124, 91)], 91) by decide +kernel) (by decide) (by simp [Op.lookupswitch.offset, hx]) rfl
set_option maxRecDepth 20000 in
theorem i63_92 : ex_ X d 63 92 [v0] [] h Q = ex_ X d 63 93 [v0] [.int 0] h Q := R_iconst (show mx_at 63 92 = some (.iconst 0, 1) by decide +kernel) (by decide)
set_option maxRecDepth 20000 in
theorem i63_93 : ex_ X d 63 93 [v0] [.int x] h Q = Q (some (.int x)) h := ex_ret (show mx_at 63 93 = some (.ireturn, 1) by decide +kernel) (mx_retI rt63)
set_option maxRecDepth 20000 in
theorem i63_94 : ex_ X d 63 94 [v0] [] h Q = ex_ X d 63 95 [v0] [.int 1] h Q := R_iconst (show mx_at 63 94 = some (.iconst 1, 1) by decide +kernel) (by decide)
set_option maxRecDepth 20000 in
theorem i63_95 : ex_ X d 63 95 [v0] [.int x] h Q = Q (some (.int x)) h := ex_ret (show mx_at 63 95 = some (.ireturn, 1) by decide +kernel) (mx_retI rt63)
set_option maxRecDepth 20000 in
theorem i63_96 : ex_ X d 63 96 [v0] [] h Q = ex_ X d 63 97 [v0] [.int 2] h Q := R_iconst (show mx_at 63 96 = some (.iconst 2, 1) by decide +kernel) (by decide)
set_option maxRecDepth 20000 in
theorem i63_97 : ex_ X d 63 97 [v0] [.int x] h Q = Q (some (.int x)) h := ex_ret (show mx_at 63 97 = some (.ireturn, 1) by decide +kernel) (mx_retI rt63)
set_option maxRecDepth 20000 in
theorem i63_98 : ex_ X d 63 98 [v0] [] h Q = ex_ X d 63 99 [v0] [.int 3] h Q := R_iconst (show mx_at 63 98 = some (.iconst 3, 1) by decide +kernel) (by decide)
set_option maxRecDepth 20000 in
theorem i63_99 : ex_ X d 63 99 [v0] [.int x] h Q = Q (some (.int x)) h := ex_ret (show mx_at 63 99 = some (.ireturn, 1) by decide +kernel) (mx_retI rt63)
set_option maxRecDepth 20000 in
theorem i63_100 : ex_ X d 63 100 [v0] [] h Q = ex_ X d 63 101 [v0] [.int 4] h Q := R_iconst (show mx_at 63 100 = some (.iconst 4, 1) by decide +kernel) (by decide)
set_option maxRecDepth 20000 in
theorem i63_101 : ex_ X d 63 101 [v0] [.int x] h Q = Q (some (.int x)) h := ex_ret (show mx_at 63 101 = some (.ireturn, 1) by decide +kernel) (mx_retI rt63)
set_option maxRecDepth 20000 in
theorem i63_102 : ex_ X d 63 102 [v0] [] h Q = ex_ X d 63 103 [v0] [.int 5] h Q := R_iconst (show mx_at 63 102 = some (.iconst 5, 1) by decide +kernel) (by decide)
set_option maxRecDepth 20000 in
theorem i63_103 : ex_ X d 63 103 [v0] [.int x] h Q = Q (some (.int x)) h := ex_ret (show mx_at 63 103 = some (.ireturn, 1) by decide +kernel) (mx_retI rt63)
theorem i63_e : ev_ X d 63 [.int x0] h Q = ex_ X d 63 0 [.int x0] [] h Q := by rw [ev_, ml63]; rfl
-- 64 X10_addStep
set_option maxRecDepth 20000 in
theorem i64_0 : ex_ X d 64 0 [.ref a, v1, v2, v3] [] h Q = ex_ X d 64 1 [.ref a, v1, v2, v3] [.ref a] h Q := ex_nx (show mx_at 64 0 = some (.aload_n 0, 1) by decide +kernel) rfl
set_option maxRecDepth 20000 in
theorem i64_1 : ex_ X d 64 1 [v0, v1, v2, v3] [.ref a] h Q = (gk_ h a 8 [(10, 0)] = true ∧ ex_ X d 64 4 [v0, v1, v2, v3] [gv_ h a 8] h Q) := R_getf (show mx_at 64 1 = some (.getfield 9, 3) by decide +kernel) (mx_fdo ow64 fd100009)
set_option maxRecDepth 20000 in
theorem i64_4 : ex_ X d 64 4 [.ref a, v1, v2, v3] [w0] h Q = ex_ X d 64 5 [.ref a, v1, v2, v3] [.ref a, w0] h Q := ex_nx (show mx_at 64 4 = some (.aload_n 0, 1) by decide +kernel) rfl
set_option maxRecDepth 20000 in
theorem i64_5 : ex_ X d 64 5 [v0, v1, v2, v3] [.ref a, w0] h Q = (gk_ h a 4 [(10, 0)] = true ∧ ex_ X d 64 8 [v0, v1, v2, v3] [gv_ h a 4, w0] h Q) := R_getf (show mx_at 64 5 = some (.getfield 34, 3) by decide +kernel) (mx_fdo ow64 fd100034)
set_option maxRecDepth 20000 in
theorem i64_8 (ha : al_ h a = some b) : ex_ X d 64 8 [v0, v1, v2, v3] [.ref a, w0] h Q = ex_ X d 64 9 [v0, v1, v2, v3] [.int (Int32.ofNat b), w0] h Q := R_alen (show mx_at 64 8 = some (.arraylength, 1) by decide +kernel) ha
set_option maxRecDepth 20000 in
theorem i64_9 : ex_ X d 64 9 [v0, v1, v2, v3] [.int y, .int x] h Q = if x < y then ex_ X d 64 14 [v0, v1, v2, v3] [] h Q else ex_ X d 64 12 [v0, v1, v2, v3] [] h Q := (R_br (show mx_at 64 9 = some (.if_icmp .lt 5, 3) by decide +kernel) rfl rfl).trans mx_ite
set_option maxRecDepth 20000 in
theorem i64_12 : ex_ X d 64 12 [v0, v1, v2, v3] [] h Q = ex_ X d 64 13 [v0, v1, v2, v3] [.int (-1)] h Q := R_iconst (show mx_at 64 12 = some (.iconst (-1), 1) by decide +kernel) (by decide)
set_option maxRecDepth 20000 in
theorem i64_13 : ex_ X d 64 13 [v0, v1, v2, v3] [.int x] h Q = Q (some (.int x)) h := ex_ret (show mx_at 64 13 = some (.ireturn, 1) by decide +kernel) (mx_retI rt64)
set_option maxRecDepth 20000 in
theorem i64_14 : ex_ X d 64 14 [.ref a, v1, v2, v3] [] h Q = ex_ X d 64 15 [.ref a, v1, v2, v3] [.ref a] h Q := ex_nx (show mx_at 64 14 = some (.aload_n 0, 1) by decide +kernel) rfl
set_option maxRecDepth 20000 in
theorem i64_15 : ex_ X d 64 15 [v0, v1, v2, v3] [.ref a] h Q = (gk_ h a 4 [(10, 0)] = true ∧ ex_ X d 64 18 [v0, v1, v2, v3] [gv_ h a 4] h Q) := R_getf (show mx_at 64 15 = some (.getfield 34, 3) by decide +kernel) (mx_fdo ow64 fd100034)
set_option maxRecDepth 20000 in
theorem i64_18 : ex_ X d 64 18 [.ref a, v1, v2, v3] [w0] h Q = ex_ X d 64 19 [.ref a, v1, v2, v3] [.ref a, w0] h Q := ex_nx (show mx_at 64 18 = some (.aload_n 0, 1) by decide +kernel) rfl
set_option maxRecDepth 20000 in
theorem i64_19 : ex_ X d 64 19 [v0, v1, v2, v3] [.ref a, w0] h Q = (gk_ h a 8 [(10, 0)] = true ∧ ex_ X d 64 22 [v0, v1, v2, v3] [gv_ h a 8, w0] h Q) := R_getf (show mx_at 64 19 = some (.getfield 9, 3) by decide +kernel) (mx_fdo ow64 fd100009)
set_option maxRecDepth 20000 in
theorem i64_22 : ex_ X d 64 22 [v0, .int x, v2, v3] [w0, w1] h Q = ex_ X d 64 23 [v0, .int x, v2, v3] [.int x, w0, w1] h Q := ex_nx (show mx_at 64 22 = some (.iload_n 1, 1) by decide +kernel) rfl
set_option maxRecDepth 20000 in
theorem i64_23 : ex_ X d 64 23 [v0, v1, v2, v3] [.int x, .int i, .ref a] h Q = (ik_ h a i = true ∧ ex_ X d 64 24 [v0, v1, v2, v3] [] (is_ h a i x) Q) := R_iast (show mx_at 64 23 = some (.iastore, 1) by decide +kernel)
set_option maxRecDepth 20000 in
theorem i64_24 : ex_ X d 64 24 [.ref a, v1, v2, v3] [] h Q = ex_ X d 64 25 [.ref a, v1, v2, v3] [.ref a] h Q := ex_nx (show mx_at 64 24 = some (.aload_n 0, 1) by decide +kernel) rfl
set_option maxRecDepth 20000 in
theorem i64_25 : ex_ X d 64 25 [v0, v1, v2, v3] [.ref a] h Q = (gk_ h a 5 [(10, 0)] = true ∧ ex_ X d 64 28 [v0, v1, v2, v3] [gv_ h a 5] h Q) := R_getf (show mx_at 64 25 = some (.getfield 38, 3) by decide +kernel) (mx_fdo ow64 fd100038)
set_option maxRecDepth 20000 in
theorem i64_28 : ex_ X d 64 28 [.ref a, v1, v2, v3] [w0] h Q = ex_ X d 64 29 [.ref a, v1, v2, v3] [.ref a, w0] h Q := ex_nx (show mx_at 64 28 = some (.aload_n 0, 1) by decide +kernel) rfl
set_option maxRecDepth 20000 in
theorem i64_29 : ex_ X d 64 29 [v0, v1, v2, v3] [.ref a, w0] h Q = (gk_ h a 8 [(10, 0)] = true ∧ ex_ X d 64 32 [v0, v1, v2, v3] [gv_ h a 8, w0] h Q) := R_getf (show mx_at 64 29 = some (.getfield 9, 3) by decide +kernel) (mx_fdo ow64 fd100009)
set_option maxRecDepth 20000 in
theorem i64_32 : ex_ X d 64 32 [v0, v1, .int x, v3] [w0, w1] h Q = ex_ X d 64 33 [v0, v1, .int x, v3] [.int x, w0, w1] h Q := ex_nx (show mx_at 64 32 = some (.iload_n 2, 1) by decide +kernel) rfl
set_option maxRecDepth 20000 in
theorem i64_33 : ex_ X d 64 33 [v0, v1, v2, v3] [.int x, .int i, .ref a] h Q = (ik_ h a i = true ∧ ex_ X d 64 34 [v0, v1, v2, v3] [] (is_ h a i x) Q) := R_iast (show mx_at 64 33 = some (.iastore, 1) by decide +kernel)
set_option maxRecDepth 20000 in
theorem i64_34 : ex_ X d 64 34 [.ref a, v1, v2, v3] [] h Q = ex_ X d 64 35 [.ref a, v1, v2, v3] [.ref a] h Q := ex_nx (show mx_at 64 34 = some (.aload_n 0, 1) by decide +kernel) rfl
set_option maxRecDepth 20000 in
theorem i64_35 : ex_ X d 64 35 [v0, v1, v2, v3] [.ref a] h Q = (gk_ h a 6 [(10, 0)] = true ∧ ex_ X d 64 38 [v0, v1, v2, v3] [gv_ h a 6] h Q) := R_getf (show mx_at 64 35 = some (.getfield 41, 3) by decide +kernel) (mx_fdo ow64 fd100041)
set_option maxRecDepth 20000 in
theorem i64_38 : ex_ X d 64 38 [.ref a, v1, v2, v3] [w0] h Q = ex_ X d 64 39 [.ref a, v1, v2, v3] [.ref a, w0] h Q := ex_nx (show mx_at 64 38 = some (.aload_n 0, 1) by decide +kernel) rfl
set_option maxRecDepth 20000 in
theorem i64_39 : ex_ X d 64 39 [v0, v1, v2, v3] [.ref a, w0] h Q = (gk_ h a 8 [(10, 0)] = true ∧ ex_ X d 64 42 [v0, v1, v2, v3] [gv_ h a 8, w0] h Q) := R_getf (show mx_at 64 39 = some (.getfield 9, 3) by decide +kernel) (mx_fdo ow64 fd100009)
set_option maxRecDepth 20000 in
theorem i64_42 : ex_ X d 64 42 [v0, v1, v2, .int x] [w0, w1] h Q = ex_ X d 64 43 [v0, v1, v2, .int x] [.int x, w0, w1] h Q := ex_nx (show mx_at 64 42 = some (.iload_n 3, 1) by decide +kernel) rfl
set_option maxRecDepth 20000 in
theorem i64_43 : ex_ X d 64 43 [v0, v1, v2, v3] [.int x, .int i, .ref a] h Q = (ik_ h a i = true ∧ ex_ X d 64 44 [v0, v1, v2, v3] [] (is_ h a i x) Q) := R_iast (show mx_at 64 43 = some (.iastore, 1) by decide +kernel)
set_option maxRecDepth 20000 in
theorem i64_44 : ex_ X d 64 44 [.ref a, v1, v2, v3] [] h Q = ex_ X d 64 45 [.ref a, v1, v2, v3] [.ref a] h Q := ex_nx (show mx_at 64 44 = some (.aload_n 0, 1) by decide +kernel) rfl
set_option maxRecDepth 20000 in
theorem i64_45 : ex_ X d 64 45 [v0, v1, v2, v3] [.ref a] h Q = ex_ X d 64 46 [v0, v1, v2, v3] [.ref a, .ref a] h Q := ex_nx (show mx_at 64 45 = some (.dup, 1) by decide +kernel) rfl
set_option maxRecDepth 20000 in
theorem i64_46 : ex_ X d 64 46 [v0, v1, v2, v3] [.ref a, w0] h Q = (gk_ h a 8 [(10, 0)] = true ∧ ex_ X d 64 49 [v0, v1, v2, v3] [gv_ h a 8, w0] h Q) := R_getf (show mx_at 64 46 = some (.getfield 9, 3) by decide +kernel) (mx_fdo ow64 fd100009)
set_option maxRecDepth 20000 in
theorem i64_49 : ex_ X d 64 49 [v0, v1, v2, v3] [w0, w1] h Q = ex_ X d 64 50 [v0, v1, v2, v3] [.int 1, w0, w1] h Q := R_iconst (show mx_at 64 49 = some (.iconst 1, 1) by decide +kernel) (by decide)
set_option maxRecDepth 20000 in
theorem i64_50 : ex_ X d 64 50 [v0, v1, v2, v3] [.int y, .int x, w0] h Q = ex_ X d 64 51 [v0, v1, v2, v3] [.int (x + y), w0] h Q := ex_nx (show mx_at 64 50 = some (.iadd, 1) by decide +kernel) rfl
set_option maxRecDepth 20000 in
theorem i64_51 : ex_ X d 64 51 [v0, v1, v2, v3] [w, .ref a] h Q = (pk_ 64 h a 8 w [(10, 0)] = true ∧ ex_ X d 64 54 [v0, v1, v2, v3] [] (pf_ h a 8 w) Q) := R_putf (show mx_at 64 51 = some (.putfield 9, 3) by decide +kernel) (mx_fdo ow64 fd100009)
set_option maxRecDepth 20000 in
theorem i64_54 : ex_ X d 64 54 [.ref a, v1, v2, v3] [] h Q = ex_ X d 64 55 [.ref a, v1, v2, v3] [.ref a] h Q := ex_nx (show mx_at 64 54 = some (.aload_n 0, 1) by decide +kernel) rfl
set_option maxRecDepth 20000 in
theorem i64_55 : ex_ X d 64 55 [v0, v1, v2, v3] [.ref a] h Q = (gk_ h a 8 [(10, 0)] = true ∧ ex_ X d 64 58 [v0, v1, v2, v3] [gv_ h a 8] h Q) := R_getf (show mx_at 64 55 = some (.getfield 9, 3) by decide +kernel) (mx_fdo ow64 fd100009)
set_option maxRecDepth 20000 in
theorem i64_58 : ex_ X d 64 58 [v0, v1, v2, v3] [w0] h Q = ex_ X d 64 59 [v0, v1, v2, v3] [.int 1, w0] h Q := R_iconst (show mx_at 64 58 = some (.iconst 1, 1) by decide +kernel) (by decide)
set_option maxRecDepth 20000 in
theorem i64_59 : ex_ X d 64 59 [v0, v1, v2, v3] [.int y, .int x] h Q = ex_ X d 64 60 [v0, v1, v2, v3] [.int (x - y)] h Q := ex_nx (show mx_at 64 59 = some (.isub, 1) by decide +kernel) rfl
set_option maxRecDepth 20000 in
theorem i64_60 : ex_ X d 64 60 [v0, v1, v2, v3] [.int x] h Q = Q (some (.int x)) h := ex_ret (show mx_at 64 60 = some (.ireturn, 1) by decide +kernel) (mx_retI rt64)
theorem i64_e : ev_ X d 64 [.ref a, .int x0, .int x1, .int x2] h Q = ex_ X d 64 0 [.ref a, .int x0, .int x1, .int x2] [] h Q := by rw [ev_, ml64]; rfl
-- 65 X10_readLevel
set_option maxRecDepth 20000 in
theorem i65_0 : ex_ X d 65 0 [v0, .int x, v2, v3, v4, v5, v6, v7] [] h Q = ex_ X d 65 1 [v0, .int x, v2, v3, v4, v5, v6, v7] [.int x] h Q := ex_nx (show mx_at 65 0 = some (.iload_n 1, 1) by decide +kernel) rfl
set_option maxRecDepth 20000 in
theorem i65_1 : ex_ X d 65 1 [v0, v1, v2, v3, v4, v5, v6, v7] [w0] h Q = ex_ X d 65 2 [v0, v1, v2, v3, v4, v5, v6, v7] [.int 5, w0] h Q := R_iconst (show mx_at 65 1 = some (.iconst 5, 1) by decide +kernel) (by decide)
set_option maxRecDepth 20000 in
theorem i65_2 : ex_ X d 65 2 [v0, v1, v2, v3, v4, v5, v6, v7] [.int y, .int x] h Q = if x < y then ex_ X d 65 11 [v0, v1, v2, v3, v4, v5, v6, v7] [] h Q else ex_ X d 65 5 [v0, v1, v2, v3, v4, v5, v6, v7] [] h Q := (R_br (show mx_at 65 2 = some (.if_icmp .lt 9, 3) by decide +kernel) rfl rfl).trans mx_ite
set_option maxRecDepth 20000 in
theorem i65_5 : ex_ X d 65 5 [.ref a, v1, v2, v3, v4, v5, v6, v7] [] h Q = ex_ X d 65 6 [.ref a, v1, v2, v3, v4, v5, v6, v7] [.ref a] h Q := ex_nx (show mx_at 65 5 = some (.aload_n 0, 1) by decide +kernel) rfl
set_option maxRecDepth 20000 in
theorem i65_6 : ex_ X d 65 6 [v0, v1, .int x, v3, v4, v5, v6, v7] [w0] h Q = ex_ X d 65 7 [v0, v1, .int x, v3, v4, v5, v6, v7] [.int x, w0] h Q := ex_nx (show mx_at 65 6 = some (.iload_n 2, 1) by decide +kernel) rfl
set_option maxRecDepth 20000 in
theorem i65_7 (hc : co_ h a = some 10) : ex_ X (d + 1) 65 7 [v0, v1, v2, v3, v4, v5, v6, v7] [.int x0, .ref a] h Q = ev_ X d 66 [.ref a, .int x0] h (fun r h' => ex_ X (d + 1) 65 10 [v0, v1, v2, v3, v4, v5, v6, v7] (r.toList ++ []) h' Q) := R_vir (show mx_at 65 7 = some (.invokevirtual 57, 3) by decide +kernel) (mx_clk ow65 cc10_57) (Nat.le_of_ble_eq_true rfl) rfl rfl hc rfl (Nat.le_of_ble_eq_true rfl) (Nat.le_of_ble_eq_true rfl) (by rw [ml66]; exact Nat.le_of_ble_eq_true rfl)
set_option maxRecDepth 20000 in
theorem i65_10 : ex_ X d 65 10 [v0, v1, v2, v3, v4, v5, v6, v7] [.int x] h Q = Q (some (.int x)) h := ex_ret (show mx_at 65 10 = some (.ireturn, 1) by decide +kernel) (mx_retI rt65)
set_option maxRecDepth 20000 in
theorem i65_11 : ex_ X d 65 11 [.ref a, v1, v2, v3, v4, v5, v6, v7] [] h Q = ex_ X d 65 12 [.ref a, v1, v2, v3, v4, v5, v6, v7] [.ref a] h Q := ex_nx (show mx_at 65 11 = some (.aload_n 0, 1) by decide +kernel) rfl
set_option maxRecDepth 20000 in
theorem i65_12 : ex_ X d 65 12 [v0, .int x, v2, v3, v4, v5, v6, v7] [w0] h Q = ex_ X d 65 13 [v0, .int x, v2, v3, v4, v5, v6, v7] [.int x, w0] h Q := ex_nx (show mx_at 65 12 = some (.iload_n 1, 1) by decide +kernel) rfl
set_option maxRecDepth 20000 in
theorem i65_13 : ex_ X d 65 13 [v0, v1, v2, v3, v4, v5, v6, v7] [w0, w1] h Q = ex_ X d 65 14 [v0, v1, v2, v3, v4, v5, v6, v7] [.int 1, w0, w1] h Q := R_iconst (show mx_at 65 13 = some (.iconst 1, 1) by decide +kernel) (by decide)
set_option maxRecDepth 20000 in
theorem i65_14 : ex_ X d 65 14 [v0, v1, v2, v3, v4, v5, v6, v7] [.int y, .int x, w0] h Q = ex_ X d 65 15 [v0, v1, v2, v3, v4, v5, v6, v7] [.int (x + y), w0] h Q := ex_nx (show mx_at 65 14 = some (.iadd, 1) by decide +kernel) rfl
set_option maxRecDepth 20000 in
theorem i65_15 : ex_ X d 65 15 [v0, v1, .int x, v3, v4, v5, v6, v7] [w0, w1] h Q = ex_ X d 65 16 [v0, v1, .int x, v3, v4, v5, v6, v7] [.int x, w0, w1] h Q := ex_nx (show mx_at 65 15 = some (.iload_n 2, 1) by decide +kernel) rfl
set_option maxRecDepth 20000 in
theorem i65_16 (hc : co_ h a = some 10) : ex_ X (d + 1) 65 16 [v0, v1, v2, v3, v4, v5, v6, v7] [.int x1, .int x0, .ref a] h Q = ev_ X d 65 [.ref a, .int x0, .int x1] h (fun r h' => ex_ X (d + 1) 65 19 [v0, v1, v2, v3, v4, v5, v6, v7] (r.toList ++ []) h' Q) := R_vir (show mx_at 65 16 = some (.invokevirtual 47, 3) by decide +kernel) (mx_clk ow65 cc10_47) (Nat.le_of_ble_eq_true rfl) rfl rfl hc rfl (Nat.le_of_ble_eq_true rfl) (Nat.le_of_ble_eq_true rfl) (by rw [ml65]; exact Nat.le_of_ble_eq_true rfl)
set_option maxRecDepth 20000 in
theorem i65_19 : ex_ X d 65 19 [v0, v1, v2, v3, v4, v5, v6, v7] [.int x] h Q = (mx_nl v2 = true ∧ ex_ X d 65 20 [v0, v1, v2, .int x, v4, v5, v6, v7] [] h Q) := mx_t1 (R_st (ok := mx_isI) (n := 3) (w := 1) (show mx_at 65 19 = some (.istore_n 3, 1) by decide +kernel) (fun _ _ => rfl) (Nat.le_of_ble_eq_true rfl)) rfl
set_option maxRecDepth 20000 in
theorem i65_20 : ex_ X d 65 20 [v0, .int x, v2, v3, v4, v5, v6, v7] [] h Q = ex_ X d 65 21 [v0, .int x, v2, v3, v4, v5, v6, v7] [.int x] h Q := ex_nx (show mx_at 65 20 = some (.iload_n 1, 1) by decide +kernel) rfl
set_option maxRecDepth 20000 in
theorem i65_21 : ex_ X d 65 21 [v0, v1, v2, v3, v4, v5, v6, v7] [w0] h Q = ex_ X d 65 22 [v0, v1, v2, v3, v4, v5, v6, v7] [.int 2, w0] h Q := R_iconst (show mx_at 65 21 = some (.iconst 2, 1) by decide +kernel) (by decide)
set_option maxRecDepth 20000 in
theorem i65_22 : ex_ X d 65 22 [v0, v1, v2, v3, v4, v5, v6, v7] [.int y, .int x] h Q = if ¬ x = y then ex_ X d 65 29 [v0, v1, v2, v3, v4, v5, v6, v7] [] h Q else ex_ X d 65 25 [v0, v1, v2, v3, v4, v5, v6, v7] [] h Q := (R_br (show mx_at 65 22 = some (.if_icmp .ne 7, 3) by decide +kernel) rfl rfl).trans mx_ite
set_option maxRecDepth 20000 in
theorem i65_25 : ex_ X d 65 25 [v0, v1, v2, v3, v4, v5, v6, v7] [] h Q = ex_ X d 65 26 [v0, v1, v2, v3, v4, v5, v6, v7] [.int 1] h Q := R_iconst (show mx_at 65 25 = some (.iconst 1, 1) by decide +kernel) (by decide)
set_option maxRecDepth 20000 in
theorem i65_26 : ex_ X d 65 26 [v0, v1, v2, v3, v4, v5, v6, v7] [w0] h Q = ex_ X d 65 33 [v0, v1, v2, v3, v4, v5, v6, v7] [w0] h Q := R_to (show mx_at 65 26 = some (.goto 7, 3) by decide +kernel) rfl rfl
set_option maxRecDepth 20000 in
theorem i65_29 : ex_ X d 65 29 [.ref a, v1, v2, v3, v4, v5, v6, v7] [] h Q = ex_ X d 65 30 [.ref a, v1, v2, v3, v4, v5, v6, v7] [.ref a] h Q := ex_nx (show mx_at 65 29 = some (.aload_n 0, 1) by decide +kernel) rfl
set_option maxRecDepth 20000 in
theorem i65_30 : ex_ X d 65 30 [v0, v1, v2, v3, v4, v5, v6, v7] [.ref a] h Q = (gk_ h a 1 [(10, 0)] = true ∧ ex_ X d 65 33 [v0, v1, v2, v3, v4, v5, v6, v7] [gv_ h a 1] h Q) := R_getf (show mx_at 65 30 = some (.getfield 23, 3) by decide +kernel) (mx_fdo ow65 fd100023)
set_option maxRecDepth 20000 in
theorem i65_33 : ex_ X d 65 33 [v0, v1, v2, v3, v4, v5, v6, v7] [.int x] h Q = (mx_nl v3 = true ∧ ex_ X d 65 35 [v0, v1, v2, v3, .int x, v5, v6, v7] [] h Q) := mx_t1 (R_st (ok := mx_isI) (n := 4) (w := 2) (show mx_at 65 33 = some (.istore 4, 2) by decide +kernel) (fun _ _ => rfl) (Nat.le_of_ble_eq_true rfl)) rfl
set_option maxRecDepth 20000 in
theorem i65_35 : ex_ X d 65 35 [v0, v1, v2, v3, v4, v5, v6, v7] [] h Q = ex_ X d 65 36 [v0, v1, v2, v3, v4, v5, v6, v7] [.int 0] h Q := R_iconst (show mx_at 65 35 = some (.iconst 0, 1) by decide +kernel) (by decide)
set_option maxRecDepth 20000 in
theorem i65_36 : ex_ X d 65 36 [v0, v1, v2, v3, v4, v5, v6, v7] [.int x] h Q = (mx_nl v4 = true ∧ ex_ X d 65 38 [v0, v1, v2, v3, v4, .int x, v6, v7] [] h Q) := mx_t1 (R_st (ok := mx_isI) (n := 5) (w := 2) (show mx_at 65 36 = some (.istore 5, 2) by decide +kernel) (fun _ _ => rfl) (Nat.le_of_ble_eq_true rfl)) rfl
set_option maxRecDepth 20000 in
theorem i65_38 : ex_ X d 65 38 [v0, v1, v2, v3, v4, .int x, v6, v7] [] h Q = ex_ X d 65 40 [v0, v1, v2, v3, v4, .int x, v6, v7] [.int x] h Q := ex_nx (show mx_at 65 38 = some (.iload 5, 2) by decide +kernel) rfl
set_option maxRecDepth 20000 in
theorem i65_40 : ex_ X d 65 40 [v0, v1, v2, v3, .int x, v5, v6, v7] [w0] h Q = ex_ X d 65 42 [v0, v1, v2, v3, .int x, v5, v6, v7] [.int x, w0] h Q := ex_nx (show mx_at 65 40 = some (.iload 4, 2) by decide +kernel) rfl
set_option maxRecDepth 20000 in
theorem i65_42 : ex_ X d 65 42 [v0, v1, v2, v3, v4, v5, v6, v7] [.int y, .int x] h Q = if y ≤ x then ex_ X d 65 111 [v0, v1, v2, v3, v4, v5, v6, v7] [] h Q else ex_ X d 65 45 [v0, v1, v2, v3, v4, v5, v6, v7] [] h Q := (R_br (show mx_at 65 42 = some (.if_icmp .ge 69, 3) by decide +kernel) rfl rfl).trans mx_ite
set_option maxRecDepth 20000 in
theorem i65_45 : ex_ X d 65 45 [v0, v1, v2, .int x, v4, v5, v6, v7] [] h Q = ex_ X d 65 46 [v0, v1, v2, .int x, v4, v5, v6, v7] [.int x] h Q := ex_nx (show mx_at 65 45 = some (.iload_n 3, 1) by decide +kernel) rfl
set_option maxRecDepth 20000 in
theorem i65_46 : ex_ X d 65 46 [v0, v1, v2, v3, v4, v5, v6, v7] [.int x] h Q = if x < 0 then ex_ X d 65 111 [v0, v1, v2, v3, v4, v5, v6, v7] [] h Q else ex_ X d 65 49 [v0, v1, v2, v3, v4, v5, v6, v7] [] h Q := (R_br (show mx_at 65 46 = some (.ifCond .lt 65, 3) by decide +kernel) rfl rfl).trans mx_ite
set_option maxRecDepth 20000 in
theorem i65_49 : ex_ X d 65 49 [.ref a, v1, v2, v3, v4, v5, v6, v7] [] h Q = ex_ X d 65 50 [.ref a, v1, v2, v3, v4, v5, v6, v7] [.ref a] h Q := ex_nx (show mx_at 65 49 = some (.aload_n 0, 1) by decide +kernel) rfl
set_option maxRecDepth 20000 in
theorem i65_50 (hc : co_ h a = some 10) : ex_ X (d + 1) 65 50 [v0, v1, v2, v3, v4, v5, v6, v7] [.ref a] h Q = ev_ X d 61 [.ref a] h (fun r h' => ex_ X (d + 1) 65 53 [v0, v1, v2, v3, v4, v5, v6, v7] (r.toList ++ []) h' Q) := R_vir (show mx_at 65 50 = some (.invokevirtual 61, 3) by decide +kernel) (mx_clk ow65 cc10_61) (Nat.le_of_ble_eq_true rfl) rfl rfl hc rfl (Nat.le_of_ble_eq_true rfl) (Nat.le_of_ble_eq_true rfl) (by rw [ml61]; exact Nat.le_of_ble_eq_true rfl)
set_option maxRecDepth 20000 in
theorem i65_53 : ex_ X (d + 1) 65 53 [v0, v1, v2, v3, v4, v5, v6, v7] [.int x0] h Q = ev_ X d 63 [.int x0] h (fun r h' => ex_ X (d + 1) 65 56 [v0, v1, v2, v3, v4, v5, v6, v7] (r.toList ++ []) h' Q) := R_stat (show mx_at 65 53 = some (.invokestatic 65, 3) by decide +kernel) (mx_clk ow65 cc10_65) (Nat.le_of_ble_eq_true rfl) rfl rfl (Nat.le_of_ble_eq_true rfl) ml63 (Nat.le_of_ble_eq_true rfl)
set_option maxRecDepth 20000 in
theorem i65_56 : ex_ X d 65 56 [v0, .int x, v2, v3, v4, v5, v6, v7] [w0] h Q = ex_ X d 65 57 [v0, .int x, v2, v3, v4, v5, v6, v7] [.int x, w0] h Q := ex_nx (show mx_at 65 56 = some (.iload_n 1, 1) by decide +kernel) rfl
set_option maxRecDepth 20000 in
theorem i65_57 : ex_ X d 65 57 [v0, v1, v2, v3, v4, v5, v6, v7] [.int y, .int x] h Q = if ¬ x = y then ex_ X d 65 111 [v0, v1, v2, v3, v4, v5, v6, v7] [] h Q else ex_ X d 65 60 [v0, v1, v2, v3, v4, v5, v6, v7] [] h Q := (R_br (show mx_at 65 57 = some (.if_icmp .ne 54, 3) by decide +kernel) rfl rfl).trans mx_ite
set_option maxRecDepth 20000 in
theorem i65_60 : ex_ X d 65 60 [.ref a, v1, v2, v3, v4, v5, v6, v7] [] h Q = ex_ X d 65 61 [.ref a, v1, v2, v3, v4, v5, v6, v7] [.ref a] h Q := ex_nx (show mx_at 65 60 = some (.aload_n 0, 1) by decide +kernel) rfl
set_option maxRecDepth 20000 in
theorem i65_61 (hc : co_ h a = some 10) : ex_ X (d + 1) 65 61 [v0, v1, v2, v3, v4, v5, v6, v7] [.ref a] h Q = ev_ X d 61 [.ref a] h (fun r h' => ex_ X (d + 1) 65 64 [v0, v1, v2, v3, v4, v5, v6, v7] (r.toList ++ []) h' Q) := R_vir (show mx_at 65 61 = some (.invokevirtual 61, 3) by decide +kernel) (mx_clk ow65 cc10_61) (Nat.le_of_ble_eq_true rfl) rfl rfl hc rfl (Nat.le_of_ble_eq_true rfl) (Nat.le_of_ble_eq_true rfl) (by rw [ml61]; exact Nat.le_of_ble_eq_true rfl)
set_option maxRecDepth 20000 in
theorem i65_64 : ex_ X d 65 64 [v0, v1, v2, v3, v4, v5, v6, v7] [.int x] h Q = (mx_nl v5 = true ∧ ex_ X d 65 66 [v0, v1, v2, v3, v4, v5, .int x, v7] [] h Q) := mx_t1 (R_st (ok := mx_isI) (n := 6) (w := 2) (show mx_at 65 64 = some (.istore 6, 2) by decide +kernel) (fun _ _ => rfl) (Nat.le_of_ble_eq_true rfl)) rfl
set_option maxRecDepth 20000 in
theorem i65_66 : ex_ X d 65 66 [.ref a, v1, v2, v3, v4, v5, v6, v7] [] h Q = ex_ X d 65 67 [.ref a, v1, v2, v3, v4, v5, v6, v7] [.ref a] h Q := ex_nx (show mx_at 65 66 = some (.aload_n 0, 1) by decide +kernel) rfl
set_option maxRecDepth 20000 in
theorem i65_67 : ex_ X d 65 67 [v0, v1, v2, v3, v4, v5, v6, v7] [.ref a] h Q = ex_ X d 65 68 [v0, v1, v2, v3, v4, v5, v6, v7] [.ref a, .ref a] h Q := ex_nx (show mx_at 65 67 = some (.dup, 1) by decide +kernel) rfl
set_option maxRecDepth 20000 in
theorem i65_68 : ex_ X d 65 68 [v0, v1, v2, v3, v4, v5, v6, v7] [.ref a, w0] h Q = (gk_ h a 3 [(10, 0)] = true ∧ ex_ X d 65 71 [v0, v1, v2, v3, v4, v5, v6, v7] [gv_ h a 3, w0] h Q) := R_getf (show mx_at 65 68 = some (.getfield 51, 3) by decide +kernel) (mx_fdo ow65 fd100051)
set_option maxRecDepth 20000 in
theorem i65_71 : ex_ X d 65 71 [v0, v1, v2, v3, v4, v5, v6, v7] [w0, w1] h Q = ex_ X d 65 72 [v0, v1, v2, v3, v4, v5, v6, v7] [.int 1, w0, w1] h Q := R_iconst (show mx_at 65 71 = some (.iconst 1, 1) by decide +kernel) (by decide)
set_option maxRecDepth 20000 in
theorem i65_72 : ex_ X d 65 72 [v0, v1, v2, v3, v4, v5, v6, v7] [.int y, .int x, w0] h Q = ex_ X d 65 73 [v0, v1, v2, v3, v4, v5, v6, v7] [.int (x + y), w0] h Q := ex_nx (show mx_at 65 72 = some (.iadd, 1) by decide +kernel) rfl
set_option maxRecDepth 20000 in
theorem i65_73 : ex_ X d 65 73 [v0, v1, v2, v3, v4, v5, v6, v7] [w, .ref a] h Q = (pk_ 65 h a 3 w [(10, 0)] = true ∧ ex_ X d 65 76 [v0, v1, v2, v3, v4, v5, v6, v7] [] (pf_ h a 3 w) Q) := R_putf (show mx_at 65 73 = some (.putfield 51, 3) by decide +kernel) (mx_fdo ow65 fd100051)
set_option maxRecDepth 20000 in
theorem i65_76 : ex_ X d 65 76 [.ref a, v1, v2, v3, v4, v5, v6, v7] [] h Q = ex_ X d 65 77 [.ref a, v1, v2, v3, v4, v5, v6, v7] [.ref a] h Q := ex_nx (show mx_at 65 76 = some (.aload_n 0, 1) by decide +kernel) rfl
set_option maxRecDepth 20000 in
theorem i65_77 : ex_ X d 65 77 [v0, .int x, v2, v3, v4, v5, v6, v7] [w0] h Q = ex_ X d 65 78 [v0, .int x, v2, v3, v4, v5, v6, v7] [.int x, w0] h Q := ex_nx (show mx_at 65 77 = some (.iload_n 1, 1) by decide +kernel) rfl
set_option maxRecDepth 20000 in
theorem i65_78 : ex_ X d 65 78 [v0, v1, v2, v3, v4, v5, v6, v7] [w0, w1] h Q = ex_ X d 65 79 [v0, v1, v2, v3, v4, v5, v6, v7] [.int 1, w0, w1] h Q := R_iconst (show mx_at 65 78 = some (.iconst 1, 1) by decide +kernel) (by decide)
set_option maxRecDepth 20000 in
theorem i65_79 : ex_ X d 65 79 [v0, v1, v2, v3, v4, v5, v6, v7] [.int y, .int x, w0] h Q = ex_ X d 65 80 [v0, v1, v2, v3, v4, v5, v6, v7] [.int (x + y), w0] h Q := ex_nx (show mx_at 65 79 = some (.iadd, 1) by decide +kernel) rfl
set_option maxRecDepth 20000 in
theorem i65_80 : ex_ X d 65 80 [v0, v1, .int x, v3, v4, v5, v6, v7] [w0, w1] h Q = ex_ X d 65 81 [v0, v1, .int x, v3, v4, v5, v6, v7] [.int x, w0, w1] h Q := ex_nx (show mx_at 65 80 = some (.iload_n 2, 1) by decide +kernel) rfl
set_option maxRecDepth 20000 in
theorem i65_81 (hc : co_ h a = some 10) : ex_ X (d + 1) 65 81 [v0, v1, v2, v3, v4, v5, v6, v7] [.int x1, .int x0, .ref a] h Q = ev_ X d 65 [.ref a, .int x0, .int x1] h (fun r h' => ex_ X (d + 1) 65 84 [v0, v1, v2, v3, v4, v5, v6, v7] (r.toList ++ []) h' Q) := R_vir (show mx_at 65 81 = some (.invokevirtual 47, 3) by decide +kernel) (mx_clk ow65 cc10_47) (Nat.le_of_ble_eq_true rfl) rfl rfl hc rfl (Nat.le_of_ble_eq_true rfl) (Nat.le_of_ble_eq_true rfl) (by rw [ml65]; exact Nat.le_of_ble_eq_true rfl)
set_option maxRecDepth 20000 in
theorem i65_84 : ex_ X d 65 84 [v0, v1, v2, v3, v4, v5, v6, v7] [.int x] h Q = (mx_nl v6 = true ∧ ex_ X d 65 86 [v0, v1, v2, v3, v4, v5, v6, .int x] [] h Q) := mx_t1 (R_st (ok := mx_isI) (n := 7) (w := 2) (show mx_at 65 84 = some (.istore 7, 2) by decide +kernel) (fun _ _ => rfl) (Nat.le_of_ble_eq_true rfl)) rfl
set_option maxRecDepth 20000 in
theorem i65_86 : ex_ X d 65 86 [v0, v1, v2, v3, v4, v5, v6, .int x] [] h Q = ex_ X d 65 88 [v0, v1, v2, v3, v4, v5, v6, .int x] [.int x] h Q := ex_nx (show mx_at 65 86 = some (.iload 7, 2) by decide +kernel) rfl
set_option maxRecDepth 20000 in
theorem i65_88 : ex_ X d 65 88 [v0, v1, v2, v3, v4, v5, v6, v7] [.int x] h Q = if 0 ≤ x then ex_ X d 65 95 [v0, v1, v2, v3, v4, v5, v6, v7] [] h Q else ex_ X d 65 91 [v0, v1, v2, v3, v4, v5, v6, v7] [] h Q := (R_br (show mx_at 65 88 = some (.ifCond .ge 7, 3) by decide +kernel) rfl rfl).trans mx_ite
set_option maxRecDepth 20000 in
theorem i65_91 : ex_ X d 65 91 [v0, v1, v2, v3, v4, v5, v6, v7] [] h Q = ex_ X d 65 92 [v0, v1, v2, v3, v4, v5, v6, v7] [.int (-1)] h Q := R_iconst (show mx_at 65 91 = some (.iconst (-1), 1) by decide +kernel) (by decide)
set_option maxRecDepth 20000 in
theorem i65_92 : ex_ X d 65 92 [v0, v1, v2, v3, v4, v5, v6, v7] [w0] h Q = ex_ X d 65 104 [v0, v1, v2, v3, v4, v5, v6, v7] [w0] h Q := R_to (show mx_at 65 92 = some (.goto 12, 3) by decide +kernel) rfl rfl
set_option maxRecDepth 20000 in
theorem i65_95 : ex_ X d 65 95 [.ref a, v1, v2, v3, v4, v5, v6, v7] [] h Q = ex_ X d 65 96 [.ref a, v1, v2, v3, v4, v5, v6, v7] [.ref a] h Q := ex_nx (show mx_at 65 95 = some (.aload_n 0, 1) by decide +kernel) rfl
set_option maxRecDepth 20000 in
theorem i65_96 : ex_ X d 65 96 [v0, v1, v2, v3, v4, v5, .int x, v7] [w0] h Q = ex_ X d 65 98 [v0, v1, v2, v3, v4, v5, .int x, v7] [.int x, w0] h Q := ex_nx (show mx_at 65 96 = some (.iload 6, 2) by decide +kernel) rfl
set_option maxRecDepth 20000 in
theorem i65_98 : ex_ X d 65 98 [v0, v1, v2, .int x, v4, v5, v6, v7] [w0, w1] h Q = ex_ X d 65 99 [v0, v1, v2, .int x, v4, v5, v6, v7] [.int x, w0, w1] h Q := ex_nx (show mx_at 65 98 = some (.iload_n 3, 1) by decide +kernel) rfl
set_option maxRecDepth 20000 in
theorem i65_99 : ex_ X d 65 99 [v0, v1, v2, v3, v4, v5, v6, .int x] [w0, w1, w2] h Q = ex_ X d 65 101 [v0, v1, v2, v3, v4, v5, v6, .int x] [.int x, w0, w1, w2] h Q := ex_nx (show mx_at 65 99 = some (.iload 7, 2) by decide +kernel) rfl
set_option maxRecDepth 20000 in
theorem i65_101 (hc : co_ h a = some 10) : ex_ X (d + 1) 65 101 [v0, v1, v2, v3, v4, v5, v6, v7] [.int x2, .int x1, .int x0, .ref a] h Q = ev_ X d 64 [.ref a, .int x0, .int x1, .int x2] h (fun r h' => ex_ X (d + 1) 65 104 [v0, v1, v2, v3, v4, v5, v6, v7] (r.toList ++ []) h' Q) := R_vir (show mx_at 65 101 = some (.invokevirtual 68, 3) by decide +kernel) (mx_clk ow65 cc10_68) (Nat.le_of_ble_eq_true rfl) rfl rfl hc rfl (Nat.le_of_ble_eq_true rfl) (Nat.le_of_ble_eq_true rfl) (by rw [ml64]; exact Nat.le_of_ble_eq_true rfl)
set_option maxRecDepth 20000 in
theorem i65_104 : ex_ X d 65 104 [v0, v1, v2, v3, v4, v5, v6, v7] [.int x] h Q = (mx_nl v2 = true ∧ ex_ X d 65 105 [v0, v1, v2, .int x, v4, v5, v6, v7] [] h Q) := mx_t1 (R_st (ok := mx_isI) (n := 3) (w := 1) (show mx_at 65 104 = some (.istore_n 3, 1) by decide +kernel) (fun _ _ => rfl) (Nat.le_of_ble_eq_true rfl)) rfl
set_option maxRecDepth 20000 in
theorem i65_105 : ex_ X d 65 105 [v0, v1, v2, v3, v4, .int x, v6, v7] [] h Q = (mx_nl v4 = true ∧ ex_ X d 65 108 [v0, v1, v2, v3, v4, .int (x + 1), v6, v7] [] h Q) := R_iinc (n := 5) (c := 1) (show mx_at 65 105 = some (.iinc 5 1, 3) by decide +kernel) rfl
set_option maxRecDepth 20000 in
theorem i65_108 : ex_ X d 65 108 [v0, v1, v2, v3, v4, v5, v6, v7] [] h Q = ex_ X d 65 38 [v0, v1, v2, v3, v4, v5, v6, v7] [] h Q := R_to (show mx_at 65 108 = some (.goto (-70), 3) by decide +kernel) rfl rfl
set_option maxRecDepth 20000 in
theorem i65_111 : ex_ X d 65 111 [v0, v1, v2, .int x, v4, v5, v6, v7] [] h Q = ex_ X d 65 112 [v0, v1, v2, .int x, v4, v5, v6, v7] [.int x] h Q := ex_nx (show mx_at 65 111 = some (.iload_n 3, 1) by decide +kernel) rfl
set_option maxRecDepth 20000 in
theorem i65_112 : ex_ X d 65 112 [v0, v1, v2, v3, v4, v5, v6, v7] [.int x] h Q = Q (some (.int x)) h := ex_ret (show mx_at 65 112 = some (.ireturn, 1) by decide +kernel) (mx_retI rt65)
theorem i65_e : ev_ X d 65 [.ref a, .int x0, .int x1] h Q = ex_ X d 65 0 [.ref a, .int x0, .int x1, .double 0, .double 0, .double 0, .double 0, .double 0] [] h Q := by rw [ev_, ml65]; rfl
-- 66 X10_readSingle
set_option maxRecDepth 20000 in
theorem i66_0 : ex_ X d 66 0 [.ref a, v1, v2, v3] [] h Q = ex_ X d 66 1 [.ref a, v1, v2, v3] [.ref a] h Q := ex_nx (show mx_at 66 0 = some (.aload_n 0, 1) by decide +kernel) rfl
set_option maxRecDepth 20000 in
theorem i66_0f0 : ex_ X d 66 0 [.float 2, v1, v2, v3] [] h Q = ex_ X d 66 1 [.float 2, v1, v2, v3] [.float 2] h Q := ex_nx (show mx_at 66 0 = some (.aload_n 0, 1) by decide +kernel) rfl
set_option maxRecDepth 20000 in
theorem i66_0f1 : ex_ X d 66 0 [.float 3, v1, v2, v3] [] h Q = ex_ X d 66 1 [.float 3, v1, v2, v3] [.float 3] h Q := ex_nx (show mx_at 66 0 = some (.aload_n 0, 1) by decide +kernel) rfl
set_option maxRecDepth 20000 in
theorem i66_0f2 : ex_ X d 66 0 [.float 4, v1, v2, v3] [] h Q = ex_ X d 66 1 [.float 4, v1, v2, v3] [.float 4] h Q := ex_nx (show mx_at 66 0 = some (.aload_n 0, 1) by decide +kernel) rfl
set_option maxRecDepth 20000 in
theorem i66_0f3 : ex_ X d 66 0 [.float 5, v1, v2, v3] [] h Q = ex_ X d 66 1 [.float 5, v1, v2, v3] [.float 5] h Q := ex_nx (show mx_at 66 0 = some (.aload_n 0, 1) by decide +kernel) rfl
set_option maxRecDepth 20000 in
theorem i66_1 (hc : co_ h a = some 10) : ex_ X (d + 1) 66 1 [v0, v1, v2, v3] [.ref a] h Q = ev_ X d 61 [.ref a] h (fun r h' => ex_ X (d + 1) 66 4 [v0, v1, v2, v3] (r.toList ++ []) h' Q) := R_vir (show mx_at 66 1 = some (.invokevirtual 61, 3) by decide +kernel) (mx_clk ow66 cc10_61) (Nat.le_of_ble_eq_true rfl) rfl rfl hc rfl (Nat.le_of_ble_eq_true rfl) (Nat.le_of_ble_eq_true rfl) (by rw [ml61]; exact Nat.le_of_ble_eq_true rfl)
set_option maxRecDepth 20000 in
theorem i66_4 : ex_ X d 66 4 [v0, v1, v2, v3] [.int x] h Q = (mx_nl v1 = true ∧ ex_ X d 66 5 [v0, v1, .int x, v3] [] h Q) := mx_t1 (R_st (ok := mx_isI) (n := 2) (w := 1) (show mx_at 66 4 = some (.istore_n 2, 1) by decide +kernel) (fun _ _ => rfl) (Nat.le_of_ble_eq_true rfl)) rfl
set_option maxRecDepth 20000 in
theorem i66_5 : ex_ X d 66 5 [v0, v1, .int x, v3] [] h Q = ex_ X d 66 6 [v0, v1, .int x, v3] [.int x] h Q := ex_nx (show mx_at 66 5 = some (.iload_n 2, 1) by decide +kernel) rfl
set_option maxRecDepth 20000 in
theorem i66_6 : ex_ X d 66 6 [v0, v1, v2, v3] [w0] h Q = ex_ X d 66 8 [v0, v1, v2, v3] [.int 33, w0] h Q := R_bipush (show mx_at 66 6 = some (.bipush 33, 2) by decide +kernel) (by decide)
set_option maxRecDepth 20000 in
theorem i66_8 : ex_ X d 66 8 [v0, v1, v2, v3] [.int y, .int x] h Q = if x = y then ex_ X d 66 17 [v0, v1, v2, v3] [] h Q else ex_ X d 66 11 [v0, v1, v2, v3] [] h Q := (R_br (show mx_at 66 8 = some (.if_icmp .eq 9, 3) by decide +kernel) rfl rfl).trans mx_ite
set_option maxRecDepth 20000 in
theorem i66_11 : ex_ X d 66 11 [v0, v1, .int x, v3] [] h Q = ex_ X d 66 12 [v0, v1, .int x, v3] [.int x] h Q := ex_nx (show mx_at 66 11 = some (.iload_n 2, 1) by decide +kernel) rfl
set_option maxRecDepth 20000 in
theorem i66_12 : ex_ X d 66 12 [v0, v1, v2, v3] [w0] h Q = ex_ X d 66 14 [v0, v1, v2, v3] [.int 40, w0] h Q := R_bipush (show mx_at 66 12 = some (.bipush 40, 2) by decide +kernel) (by decide)
set_option maxRecDepth 20000 in
theorem i66_14 : ex_ X d 66 14 [v0, v1, v2, v3] [.int y, .int x] h Q = if ¬ x = y then ex_ X d 66 35 [v0, v1, v2, v3] [] h Q else ex_ X d 66 17 [v0, v1, v2, v3] [] h Q := (R_br (show mx_at 66 14 = some (.if_icmp .ne 21, 3) by decide +kernel) rfl rfl).trans mx_ite
set_option maxRecDepth 20000 in
theorem i66_17 : ex_ X d 66 17 [v0, .int x, v2, v3] [] h Q = ex_ X d 66 18 [v0, .int x, v2, v3] [.int x] h Q := ex_nx (show mx_at 66 17 = some (.iload_n 1, 1) by decide +kernel) rfl
set_option maxRecDepth 20000 in
theorem i66_18 : ex_ X d 66 18 [v0, v1, v2, v3] [w0] h Q = ex_ X d 66 19 [v0, v1, v2, v3] [.int 5, w0] h Q := R_iconst (show mx_at 66 18 = some (.iconst 5, 1) by decide +kernel) (by decide)
set_option maxRecDepth 20000 in
theorem i66_19 : ex_ X d 66 19 [v0, v1, v2, v3] [.int y, .int x] h Q = if x < y then ex_ X d 66 26 [v0, v1, v2, v3] [] h Q else ex_ X d 66 22 [v0, v1, v2, v3] [] h Q := (R_br (show mx_at 66 19 = some (.if_icmp .lt 7, 3) by decide +kernel) rfl rfl).trans mx_ite
set_option maxRecDepth 20000 in
theorem i66_22 : ex_ X d 66 22 [v0, v1, v2, v3] [] h Q = ex_ X d 66 23 [v0, v1, v2, v3] [.int (-1)] h Q := R_iconst (show mx_at 66 22 = some (.iconst (-1), 1) by decide +kernel) (by decide)
set_option maxRecDepth 20000 in
theorem i66_23 : ex_ X d 66 23 [v0, v1, v2, v3] [w0] h Q = ex_ X d 66 34 [v0, v1, v2, v3] [w0] h Q := R_to (show mx_at 66 23 = some (.goto 11, 3) by decide +kernel) rfl rfl
set_option maxRecDepth 20000 in
theorem i66_26 : ex_ X d 66 26 [.ref a, v1, v2, v3] [] h Q = ex_ X d 66 27 [.ref a, v1, v2, v3] [.ref a] h Q := ex_nx (show mx_at 66 26 = some (.aload_n 0, 1) by decide +kernel) rfl
set_option maxRecDepth 20000 in
theorem i66_26f0 : ex_ X d 66 26 [.float 2, v1, v2, v3] [] h Q = ex_ X d 66 27 [.float 2, v1, v2, v3] [.float 2] h Q := ex_nx (show mx_at 66 26 = some (.aload_n 0, 1) by decide +kernel) rfl
set_option maxRecDepth 20000 in
theorem i66_26f1 : ex_ X d 66 26 [.float 3, v1, v2, v3] [] h Q = ex_ X d 66 27 [.float 3, v1, v2, v3] [.float 3] h Q := ex_nx (show mx_at 66 26 = some (.aload_n 0, 1) by decide +kernel) rfl
set_option maxRecDepth 20000 in
theorem i66_26f2 : ex_ X d 66 26 [.float 4, v1, v2, v3] [] h Q = ex_ X d 66 27 [.float 4, v1, v2, v3] [.float 4] h Q := ex_nx (show mx_at 66 26 = some (.aload_n 0, 1) by decide +kernel) rfl
set_option maxRecDepth 20000 in
theorem i66_26f3 : ex_ X d 66 26 [.float 5, v1, v2, v3] [] h Q = ex_ X d 66 27 [.float 5, v1, v2, v3] [.float 5] h Q := ex_nx (show mx_at 66 26 = some (.aload_n 0, 1) by decide +kernel) rfl
set_option maxRecDepth 20000 in
theorem i66_27 : ex_ X d 66 27 [v0, v1, .int x, v3] [w0] h Q = ex_ X d 66 28 [v0, v1, .int x, v3] [.int x, w0] h Q := ex_nx (show mx_at 66 27 = some (.iload_n 2, 1) by decide +kernel) rfl
set_option maxRecDepth 20000 in
theorem i66_28 : ex_ X d 66 28 [v0, .int x, v2, v3] [w0, w1] h Q = ex_ X d 66 29 [v0, .int x, v2, v3] [.int x, w0, w1] h Q := ex_nx (show mx_at 66 28 = some (.iload_n 1, 1) by decide +kernel) rfl
set_option maxRecDepth 20000 in
theorem i66_29 : ex_ X d 66 29 [v0, v1, v2, v3] [w0, w1, w2] h Q = ex_ X d 66 30 [v0, v1, v2, v3] [.int 1, w0, w1, w2] h Q := R_iconst (show mx_at 66 29 = some (.iconst 1, 1) by decide +kernel) (by decide)
set_option maxRecDepth 20000 in
theorem i66_30 : ex_ X d 66 30 [v0, v1, v2, v3] [.int y, .int x, w0, w1] h Q = ex_ X d 66 31 [v0, v1, v2, v3] [.int (x + y), w0, w1] h Q := ex_nx (show mx_at 66 30 = some (.iadd, 1) by decide +kernel) rfl
set_option maxRecDepth 20000 in
theorem i66_31 (hc : co_ h a = some 10) : ex_ X (d + 1) 66 31 [v0, v1, v2, v3] [.int x1, .int x0, .ref a] h Q = ev_ X d 67 [.ref a, .int x0, .int x1] h (fun r h' => ex_ X (d + 1) 66 34 [v0, v1, v2, v3] (r.toList ++ []) h' Q) := R_vir (show mx_at 66 31 = some (.invokevirtual 72, 3) by decide +kernel) (mx_clk ow66 cc10_72) (Nat.le_of_ble_eq_true rfl) rfl rfl hc rfl (Nat.le_of_ble_eq_true rfl) (Nat.le_of_ble_eq_true rfl) (by rw [ml67]; exact Nat.le_of_ble_eq_true rfl)
set_option maxRecDepth 20000 in
theorem i66_34 : ex_ X d 66 34 [v0, v1, v2, v3] [.int x] h Q = Q (some (.int x)) h := ex_ret (show mx_at 66 34 = some (.ireturn, 1) by decide +kernel) (mx_retI rt66)
set_option maxRecDepth 20000 in
theorem i66_35 : ex_ X d 66 35 [v0, v1, .int x, v3] [] h Q = ex_ X d 66 36 [v0, v1, .int x, v3] [.int x] h Q := ex_nx (show mx_at 66 35 = some (.iload_n 2, 1) by decide +kernel) rfl
set_option maxRecDepth 20000 in
theorem i66_36 : ex_ X (d + 1) 66 36 [v0, v1, v2, v3] [.int x0] h Q = ev_ X d 62 [.int x0] h (fun r h' => ex_ X (d + 1) 66 39 [v0, v1, v2, v3] (r.toList ++ []) h' Q) := R_stat (show mx_at 66 36 = some (.invokestatic 75, 3) by decide +kernel) (mx_clk ow66 cc10_75) (Nat.le_of_ble_eq_true rfl) rfl rfl (Nat.le_of_ble_eq_true rfl) ml62 (Nat.le_of_ble_eq_true rfl)
set_option maxRecDepth 20000 in
theorem i66_39 : ex_ X d 66 39 [v0, v1, v2, v3] [.int x] h Q = if x = 0 then ex_ X d 66 47 [v0, v1, v2, v3] [] h Q else ex_ X d 66 42 [v0, v1, v2, v3] [] h Q := (R_br (show mx_at 66 39 = some (.ifCond .eq 8, 3) by decide +kernel) rfl rfl).trans mx_ite
set_option maxRecDepth 20000 in
theorem i66_42 : ex_ X d 66 42 [.ref a, v1, v2, v3] [] h Q = ex_ X d 66 43 [.ref a, v1, v2, v3] [.ref a] h Q := ex_nx (show mx_at 66 42 = some (.aload_n 0, 1) by decide +kernel) rfl
set_option maxRecDepth 20000 in
theorem i66_42f0 : ex_ X d 66 42 [.float 2, v1, v2, v3] [] h Q = ex_ X d 66 43 [.float 2, v1, v2, v3] [.float 2] h Q := ex_nx (show mx_at 66 42 = some (.aload_n 0, 1) by decide +kernel) rfl
set_option maxRecDepth 20000 in
theorem i66_42f1 : ex_ X d 66 42 [.float 3, v1, v2, v3] [] h Q = ex_ X d 66 43 [.float 3, v1, v2, v3] [.float 3] h Q := ex_nx (show mx_at 66 42 = some (.aload_n 0, 1) by decide +kernel) rfl
set_option maxRecDepth 20000 in
theorem i66_42f2 : ex_ X d 66 42 [.float 4, v1, v2, v3] [] h Q = ex_ X d 66 43 [.float 4, v1, v2, v3] [.float 4] h Q := ex_nx (show mx_at 66 42 = some (.aload_n 0, 1) by decide +kernel) rfl
set_option maxRecDepth 20000 in
theorem i66_42f3 : ex_ X d 66 42 [.float 5, v1, v2, v3] [] h Q = ex_ X d 66 43 [.float 5, v1, v2, v3] [.float 5] h Q := ex_nx (show mx_at 66 42 = some (.aload_n 0, 1) by decide +kernel) rfl
set_option maxRecDepth 20000 in
theorem i66_43 (hc : co_ h a = some 10) : ex_ X (d + 1) 66 43 [v0, v1, v2, v3] [.ref a] h Q = ev_ X d 68 [.ref a] h (fun r h' => ex_ X (d + 1) 66 46 [v0, v1, v2, v3] (r.toList ++ []) h' Q) := R_vir (show mx_at 66 43 = some (.invokevirtual 79, 3) by decide +kernel) (mx_clk ow66 cc10_79) (Nat.le_of_ble_eq_true rfl) rfl rfl hc rfl (Nat.le_of_ble_eq_true rfl) (Nat.le_of_ble_eq_true rfl) (by rw [ml68]; exact Nat.le_of_ble_eq_true rfl)
set_option maxRecDepth 20000 in
theorem i66_46 : ex_ X d 66 46 [v0, v1, v2, v3] [.int x] h Q = Q (some (.int x)) h := ex_ret (show mx_at 66 46 = some (.ireturn, 1) by decide +kernel) (mx_retI rt66)
set_option maxRecDepth 20000 in
theorem i66_47 : ex_ X d 66 47 [v0, v1, .int x, v3] [] h Q = ex_ X d 66 48 [v0, v1, .int x, v3] [.int x] h Q := ex_nx (show mx_at 66 47 = some (.iload_n 2, 1) by decide +kernel) rfl
set_option maxRecDepth 20000 in
theorem i66_48 : ex_ X d 66 48 [v0, v1, v2, v3] [.int x] h Q = if 0 ≤ x then ex_ X d 66 55 [v0, v1, v2, v3] [] h Q else ex_ X d 66 51 [v0, v1, v2, v3] [] h Q := (R_br (show mx_at 66 48 = some (.ifCond .ge 7, 3) by decide +kernel) rfl rfl).trans mx_ite
set_option maxRecDepth 20000 in
theorem i66_51 : ex_ X d 66 51 [v0, v1, v2, v3] [] h Q = ex_ X d 66 52 [v0, v1, v2, v3] [.int (-1)] h Q := R_iconst (show mx_at 66 51 = some (.iconst (-1), 1) by decide +kernel) (by decide)
set_option maxRecDepth 20000 in
theorem i66_52 : ex_ X d 66 52 [v0, v1, v2, v3] [w0] h Q = ex_ X d 66 64 [v0, v1, v2, v3] [w0] h Q := R_to (show mx_at 66 52 = some (.goto 12, 3) by decide +kernel) rfl rfl
set_option maxRecDepth 20000 in
theorem i66_55 : ex_ X d 66 55 [.ref a, v1, v2, v3] [] h Q = ex_ X d 66 56 [.ref a, v1, v2, v3] [.ref a] h Q := ex_nx (show mx_at 66 55 = some (.aload_n 0, 1) by decide +kernel) rfl
set_option maxRecDepth 20000 in
theorem i66_55f0 : ex_ X d 66 55 [.float 2, v1, v2, v3] [] h Q = ex_ X d 66 56 [.float 2, v1, v2, v3] [.float 2] h Q := ex_nx (show mx_at 66 55 = some (.aload_n 0, 1) by decide +kernel) rfl
set_option maxRecDepth 20000 in
theorem i66_55f1 : ex_ X d 66 55 [.float 3, v1, v2, v3] [] h Q = ex_ X d 66 56 [.float 3, v1, v2, v3] [.float 3] h Q := ex_nx (show mx_at 66 55 = some (.aload_n 0, 1) by decide +kernel) rfl
set_option maxRecDepth 20000 in
theorem i66_55f2 : ex_ X d 66 55 [.float 4, v1, v2, v3] [] h Q = ex_ X d 66 56 [.float 4, v1, v2, v3] [.float 4] h Q := ex_nx (show mx_at 66 55 = some (.aload_n 0, 1) by decide +kernel) rfl
set_option maxRecDepth 20000 in
theorem i66_55f3 : ex_ X d 66 55 [.float 5, v1, v2, v3] [] h Q = ex_ X d 66 56 [.float 5, v1, v2, v3] [.float 5] h Q := ex_nx (show mx_at 66 55 = some (.aload_n 0, 1) by decide +kernel) rfl
set_option maxRecDepth 20000 in
theorem i66_56 : ex_ X d 66 56 [v0, v1, v2, v3] [.ref a] h Q = (gk_ h a 2 [(10, 0)] = true ∧ ex_ X d 66 59 [v0, v1, v2, v3] [gv_ h a 2] h Q) := R_getf (show mx_at 66 56 = some (.getfield 30, 3) by decide +kernel) (mx_fdo ow66 fd100030)
set_option maxRecDepth 20000 in
theorem i66_59 : ex_ X d 66 59 [v0, v1, .int x, v3] [w0] h Q = ex_ X d 66 60 [v0, v1, .int x, v3] [.int x, w0] h Q := ex_nx (show mx_at 66 59 = some (.iload_n 2, 1) by decide +kernel) rfl
set_option maxRecDepth 20000 in
theorem i66_60 : ex_ X d 66 60 [v0, v1, v2, v3] [.int x, w0] h Q = ex_ X d 66 61 [v0, v1, v2, v3] [.int ((x.toUInt32 % 65536).toInt32), w0] h Q := ex_nx (show mx_at 66 60 = some (.i2c, 1) by decide +kernel) rfl
set_option maxRecDepth 20000 in
theorem i66_61f0 : ex_ X (d + 1) 66 61 [v0, v1, v2, v3] [.int x0, .float 2] h Q = ev_ X d 209 [.float 2, .int x0] h (fun r h' => ex_ X (d + 1) 66 64 [v0, v1, v2, v3] (r.toList ++ []) h' Q) := R_virx (show mx_at 66 61 = some (.invokevirtual 82, 3) by decide +kernel) (mx_clk ow66 cc10_82) (Nat.le_of_ble_eq_true rfl) rfl rfl (by decide) rfl (Nat.le_of_ble_eq_true rfl) (by rw [ml209]; exact Nat.le_of_ble_eq_true rfl)
set_option maxRecDepth 20000 in
theorem i66_61f1 : ex_ X (d + 1) 66 61 [v0, v1, v2, v3] [.int x0, .float 3] h Q = ev_ X d 209 [.float 3, .int x0] h (fun r h' => ex_ X (d + 1) 66 64 [v0, v1, v2, v3] (r.toList ++ []) h' Q) := R_virx (show mx_at 66 61 = some (.invokevirtual 82, 3) by decide +kernel) (mx_clk ow66 cc10_82) (Nat.le_of_ble_eq_true rfl) rfl rfl (by decide) rfl (Nat.le_of_ble_eq_true rfl) (by rw [ml209]; exact Nat.le_of_ble_eq_true rfl)
set_option maxRecDepth 20000 in
theorem i66_64 : ex_ X d 66 64 [v0, v1, v2, v3] [.int x] h Q = (mx_nl v2 = true ∧ ex_ X d 66 65 [v0, v1, v2, .int x] [] h Q) := mx_t1 (R_st (ok := mx_isI) (n := 3) (w := 1) (show mx_at 66 64 = some (.istore_n 3, 1) by decide +kernel) (fun _ _ => rfl) (Nat.le_of_ble_eq_true rfl)) rfl
set_option maxRecDepth 20000 in
theorem i66_65 : ex_ X d 66 65 [v0, v1, v2, .int x] [] h Q = ex_ X d 66 66 [v0, v1, v2, .int x] [.int x] h Q := ex_nx (show mx_at 66 65 = some (.iload_n 3, 1) by decide +kernel) rfl
set_option maxRecDepth 20000 in
theorem i66_66 : ex_ X d 66 66 [v0, v1, v2, v3] [.int x] h Q = if x < 0 then ex_ X d 66 79 [v0, v1, v2, v3] [] h Q else ex_ X d 66 69 [v0, v1, v2, v3] [] h Q := (R_br (show mx_at 66 66 = some (.ifCond .lt 13, 3) by decide +kernel) rfl rfl).trans mx_ite
set_option maxRecDepth 20000 in
theorem i66_69 : ex_ X d 66 69 [.ref a, v1, v2, v3] [] h Q = ex_ X d 66 70 [.ref a, v1, v2, v3] [.ref a] h Q := ex_nx (show mx_at 66 69 = some (.aload_n 0, 1) by decide +kernel) rfl
set_option maxRecDepth 20000 in
theorem i66_69f0 : ex_ X d 66 69 [.float 2, v1, v2, v3] [] h Q = ex_ X d 66 70 [.float 2, v1, v2, v3] [.float 2] h Q := ex_nx (show mx_at 66 69 = some (.aload_n 0, 1) by decide +kernel) rfl
set_option maxRecDepth 20000 in
theorem i66_69f1 : ex_ X d 66 69 [.float 3, v1, v2, v3] [] h Q = ex_ X d 66 70 [.float 3, v1, v2, v3] [.float 3] h Q := ex_nx (show mx_at 66 69 = some (.aload_n 0, 1) by decide +kernel) rfl
set_option maxRecDepth 20000 in
theorem i66_69f2 : ex_ X d 66 69 [.float 4, v1, v2, v3] [] h Q = ex_ X d 66 70 [.float 4, v1, v2, v3] [.float 4] h Q := ex_nx (show mx_at 66 69 = some (.aload_n 0, 1) by decide +kernel) rfl
set_option maxRecDepth 20000 in
theorem i66_69f3 : ex_ X d 66 69 [.float 5, v1, v2, v3] [] h Q = ex_ X d 66 70 [.float 5, v1, v2, v3] [.float 5] h Q := ex_nx (show mx_at 66 69 = some (.aload_n 0, 1) by decide +kernel) rfl
set_option maxRecDepth 20000 in
theorem i66_70 : ex_ X d 66 70 [v0, v1, v2, v3] [.ref a] h Q = ex_ X d 66 71 [v0, v1, v2, v3] [.ref a, .ref a] h Q := ex_nx (show mx_at 66 70 = some (.dup, 1) by decide +kernel) rfl
set_option maxRecDepth 20000 in
theorem i66_71 : ex_ X d 66 71 [v0, v1, v2, v3] [.ref a, w0] h Q = (gk_ h a 3 [(10, 0)] = true ∧ ex_ X d 66 74 [v0, v1, v2, v3] [gv_ h a 3, w0] h Q) := R_getf (show mx_at 66 71 = some (.getfield 51, 3) by decide +kernel) (mx_fdo ow66 fd100051)
set_option maxRecDepth 20000 in
theorem i66_74 : ex_ X d 66 74 [v0, v1, v2, v3] [w0, w1] h Q = ex_ X d 66 75 [v0, v1, v2, v3] [.int 1, w0, w1] h Q := R_iconst (show mx_at 66 74 = some (.iconst 1, 1) by decide +kernel) (by decide)
set_option maxRecDepth 20000 in
theorem i66_75 : ex_ X d 66 75 [v0, v1, v2, v3] [.int y, .int x, w0] h Q = ex_ X d 66 76 [v0, v1, v2, v3] [.int (x + y), w0] h Q := ex_nx (show mx_at 66 75 = some (.iadd, 1) by decide +kernel) rfl
set_option maxRecDepth 20000 in
theorem i66_76 : ex_ X d 66 76 [v0, v1, v2, v3] [w, .ref a] h Q = (pk_ 66 h a 3 w [(10, 0)] = true ∧ ex_ X d 66 79 [v0, v1, v2, v3] [] (pf_ h a 3 w) Q) := R_putf (show mx_at 66 76 = some (.putfield 51, 3) by decide +kernel) (mx_fdo ow66 fd100051)
set_option maxRecDepth 20000 in
theorem i66_79 : ex_ X d 66 79 [v0, v1, v2, .int x] [] h Q = ex_ X d 66 80 [v0, v1, v2, .int x] [.int x] h Q := ex_nx (show mx_at 66 79 = some (.iload_n 3, 1) by decide +kernel) rfl
set_option maxRecDepth 20000 in
theorem i66_80 : ex_ X d 66 80 [v0, v1, v2, v3] [.int x] h Q = Q (some (.int x)) h := ex_ret (show mx_at 66 80 = some (.ireturn, 1) by decide +kernel) (mx_retI rt66)
theorem i66_e : ev_ X d 66 [.ref a, .int x0] h Q = ex_ X d 66 0 [.ref a, .int x0, .double 0, .double 0] [] h Q := by rw [ev_, ml66]; rfl
-- 67 X10_readOpened
set_option maxRecDepth 20000 in
theorem i67_0 : ex_ X d 67 0 [.ref a, v1, v2, v3] [] h Q = ex_ X d 67 1 [.ref a, v1, v2, v3] [.ref a] h Q := ex_nx (show mx_at 67 0 = some (.aload_n 0, 1) by decide +kernel) rfl
set_option maxRecDepth 20000 in
theorem i67_1 : ex_ X d 67 1 [v0, v1, v2, v3] [.ref a] h Q = ex_ X d 67 2 [v0, v1, v2, v3] [.ref a, .ref a] h Q := ex_nx (show mx_at 67 1 = some (.dup, 1) by decide +kernel) rfl
set_option maxRecDepth 20000 in
theorem i67_2 : ex_ X d 67 2 [v0, v1, v2, v3] [.ref a, w0] h Q = (gk_ h a 3 [(10, 0)] = true ∧ ex_ X d 67 5 [v0, v1, v2, v3] [gv_ h a 3, w0] h Q) := R_getf (show mx_at 67 2 = some (.getfield 51, 3) by decide +kernel) (mx_fdo ow67 fd100051)
set_option maxRecDepth 20000 in
theorem i67_5 : ex_ X d 67 5 [v0, v1, v2, v3] [w0, w1] h Q = ex_ X d 67 6 [v0, v1, v2, v3] [.int 1, w0, w1] h Q := R_iconst (show mx_at 67 5 = some (.iconst 1, 1) by decide +kernel) (by decide)
set_option maxRecDepth 20000 in
theorem i67_6 : ex_ X d 67 6 [v0, v1, v2, v3] [.int y, .int x, w0] h Q = ex_ X d 67 7 [v0, v1, v2, v3] [.int (x + y), w0] h Q := ex_nx (show mx_at 67 6 = some (.iadd, 1) by decide +kernel) rfl
set_option maxRecDepth 20000 in
theorem i67_7 : ex_ X d 67 7 [v0, v1, v2, v3] [w, .ref a] h Q = (pk_ 67 h a 3 w [(10, 0)] = true ∧ ex_ X d 67 10 [v0, v1, v2, v3] [] (pf_ h a 3 w) Q) := R_putf (show mx_at 67 7 = some (.putfield 51, 3) by decide +kernel) (mx_fdo ow67 fd100051)
set_option maxRecDepth 20000 in
theorem i67_10 : ex_ X d 67 10 [v0, .int x, v2, v3] [] h Q = ex_ X d 67 11 [v0, .int x, v2, v3] [.int x] h Q := ex_nx (show mx_at 67 10 = some (.iload_n 1, 1) by decide +kernel) rfl
set_option maxRecDepth 20000 in
theorem i67_11 : ex_ X d 67 11 [v0, v1, v2, v3] [w0] h Q = ex_ X d 67 13 [v0, v1, v2, v3] [.int 33, w0] h Q := R_bipush (show mx_at 67 11 = some (.bipush 33, 2) by decide +kernel) (by decide)
set_option maxRecDepth 20000 in
theorem i67_13 : ex_ X d 67 13 [v0, v1, v2, v3] [.int y, .int x] h Q = if ¬ x = y then ex_ X d 67 39 [v0, v1, v2, v3] [] h Q else ex_ X d 67 16 [v0, v1, v2, v3] [] h Q := (R_br (show mx_at 67 13 = some (.if_icmp .ne 26, 3) by decide +kernel) rfl rfl).trans mx_ite
set_option maxRecDepth 20000 in
theorem i67_16 : ex_ X d 67 16 [.ref a, v1, v2, v3] [] h Q = ex_ X d 67 17 [.ref a, v1, v2, v3] [.ref a] h Q := ex_nx (show mx_at 67 16 = some (.aload_n 0, 1) by decide +kernel) rfl
set_option maxRecDepth 20000 in
theorem i67_17 : ex_ X d 67 17 [v0, v1, .int x, v3] [w0] h Q = ex_ X d 67 18 [v0, v1, .int x, v3] [.int x, w0] h Q := ex_nx (show mx_at 67 17 = some (.iload_n 2, 1) by decide +kernel) rfl
set_option maxRecDepth 20000 in
theorem i67_18 (hc : co_ h a = some 10) : ex_ X (d + 1) 67 18 [v0, v1, v2, v3] [.int x0, .ref a] h Q = ev_ X d 66 [.ref a, .int x0] h (fun r h' => ex_ X (d + 1) 67 21 [v0, v1, v2, v3] (r.toList ++ []) h' Q) := R_vir (show mx_at 67 18 = some (.invokevirtual 57, 3) by decide +kernel) (mx_clk ow67 cc10_57) (Nat.le_of_ble_eq_true rfl) rfl rfl hc rfl (Nat.le_of_ble_eq_true rfl) (Nat.le_of_ble_eq_true rfl) (by rw [ml66]; exact Nat.le_of_ble_eq_true rfl)
set_option maxRecDepth 20000 in
theorem i67_21 : ex_ X d 67 21 [v0, v1, v2, v3] [.int x] h Q = (mx_nl v2 = true ∧ ex_ X d 67 22 [v0, v1, v2, .int x] [] h Q) := mx_t1 (R_st (ok := mx_isI) (n := 3) (w := 1) (show mx_at 67 21 = some (.istore_n 3, 1) by decide +kernel) (fun _ _ => rfl) (Nat.le_of_ble_eq_true rfl)) rfl
set_option maxRecDepth 20000 in
theorem i67_22 : ex_ X d 67 22 [v0, v1, v2, .int x] [] h Q = ex_ X d 67 23 [v0, v1, v2, .int x] [.int x] h Q := ex_nx (show mx_at 67 22 = some (.iload_n 3, 1) by decide +kernel) rfl
set_option maxRecDepth 20000 in
theorem i67_23 : ex_ X d 67 23 [v0, v1, v2, v3] [.int x] h Q = if 0 ≤ x then ex_ X d 67 30 [v0, v1, v2, v3] [] h Q else ex_ X d 67 26 [v0, v1, v2, v3] [] h Q := (R_br (show mx_at 67 23 = some (.ifCond .ge 7, 3) by decide +kernel) rfl rfl).trans mx_ite
set_option maxRecDepth 20000 in
theorem i67_26 : ex_ X d 67 26 [v0, v1, v2, v3] [] h Q = ex_ X d 67 27 [v0, v1, v2, v3] [.int (-1)] h Q := R_iconst (show mx_at 67 26 = some (.iconst (-1), 1) by decide +kernel) (by decide)
set_option maxRecDepth 20000 in
theorem i67_27 : ex_ X d 67 27 [v0, v1, v2, v3] [w0] h Q = ex_ X d 67 38 [v0, v1, v2, v3] [w0] h Q := R_to (show mx_at 67 27 = some (.goto 11, 3) by decide +kernel) rfl rfl
set_option maxRecDepth 20000 in
theorem i67_30 : ex_ X d 67 30 [.ref a, v1, v2, v3] [] h Q = ex_ X d 67 31 [.ref a, v1, v2, v3] [.ref a] h Q := ex_nx (show mx_at 67 30 = some (.aload_n 0, 1) by decide +kernel) rfl
set_option maxRecDepth 20000 in
theorem i67_31 : ex_ X d 67 31 [v0, v1, v2, v3] [w0] h Q = ex_ X d 67 33 [v0, v1, v2, v3] [.int 33, w0] h Q := R_bipush (show mx_at 67 31 = some (.bipush 33, 2) by decide +kernel) (by decide)
set_option maxRecDepth 20000 in
theorem i67_33 : ex_ X d 67 33 [v0, v1, v2, .int x] [w0, w1] h Q = ex_ X d 67 34 [v0, v1, v2, .int x] [.int x, w0, w1] h Q := ex_nx (show mx_at 67 33 = some (.iload_n 3, 1) by decide +kernel) rfl
set_option maxRecDepth 20000 in
theorem i67_34 : ex_ X d 67 34 [v0, v1, v2, .int x] [w0, w1, w2] h Q = ex_ X d 67 35 [v0, v1, v2, .int x] [.int x, w0, w1, w2] h Q := ex_nx (show mx_at 67 34 = some (.iload_n 3, 1) by decide +kernel) rfl
set_option maxRecDepth 20000 in
theorem i67_35 (hc : co_ h a = some 10) : ex_ X (d + 1) 67 35 [v0, v1, v2, v3] [.int x2, .int x1, .int x0, .ref a] h Q = ev_ X d 64 [.ref a, .int x0, .int x1, .int x2] h (fun r h' => ex_ X (d + 1) 67 38 [v0, v1, v2, v3] (r.toList ++ []) h' Q) := R_vir (show mx_at 67 35 = some (.invokevirtual 68, 3) by decide +kernel) (mx_clk ow67 cc10_68) (Nat.le_of_ble_eq_true rfl) rfl rfl hc rfl (Nat.le_of_ble_eq_true rfl) (Nat.le_of_ble_eq_true rfl) (by rw [ml64]; exact Nat.le_of_ble_eq_true rfl)
set_option maxRecDepth 20000 in
theorem i67_38 : ex_ X d 67 38 [v0, v1, v2, v3] [.int x] h Q = Q (some (.int x)) h := ex_ret (show mx_at 67 38 = some (.ireturn, 1) by decide +kernel) (mx_retI rt67)
set_option maxRecDepth 20000 in
theorem i67_39 : ex_ X d 67 39 [.ref a, v1, v2, v3] [] h Q = ex_ X d 67 40 [.ref a, v1, v2, v3] [.ref a] h Q := ex_nx (show mx_at 67 39 = some (.aload_n 0, 1) by decide +kernel) rfl
set_option maxRecDepth 20000 in
theorem i67_40 : ex_ X d 67 40 [v0, v1, v2, v3] [w0] h Q = ex_ X d 67 41 [v0, v1, v2, v3] [.int 0, w0] h Q := R_iconst (show mx_at 67 40 = some (.iconst 0, 1) by decide +kernel) (by decide)
set_option maxRecDepth 20000 in
theorem i67_41 : ex_ X d 67 41 [v0, v1, .int x, v3] [w0, w1] h Q = ex_ X d 67 42 [v0, v1, .int x, v3] [.int x, w0, w1] h Q := ex_nx (show mx_at 67 41 = some (.iload_n 2, 1) by decide +kernel) rfl
set_option maxRecDepth 20000 in
theorem i67_42 (hc : co_ h a = some 10) : ex_ X (d + 1) 67 42 [v0, v1, v2, v3] [.int x1, .int x0, .ref a] h Q = ev_ X d 65 [.ref a, .int x0, .int x1] h (fun r h' => ex_ X (d + 1) 67 45 [v0, v1, v2, v3] (r.toList ++ []) h' Q) := R_vir (show mx_at 67 42 = some (.invokevirtual 47, 3) by decide +kernel) (mx_clk ow67 cc10_47) (Nat.le_of_ble_eq_true rfl) rfl rfl hc rfl (Nat.le_of_ble_eq_true rfl) (Nat.le_of_ble_eq_true rfl) (by rw [ml65]; exact Nat.le_of_ble_eq_true rfl)
set_option maxRecDepth 20000 in
theorem i67_45 : ex_ X d 67 45 [v0, v1, v2, v3] [.int x] h Q = (mx_nl v2 = true ∧ ex_ X d 67 46 [v0, v1, v2, .int x] [] h Q) := mx_t1 (R_st (ok := mx_isI) (n := 3) (w := 1) (show mx_at 67 45 = some (.istore_n 3, 1) by decide +kernel) (fun _ _ => rfl) (Nat.le_of_ble_eq_true rfl)) rfl
set_option maxRecDepth 20000 in
theorem i67_46 : ex_ X d 67 46 [v0, v1, v2, .int x] [] h Q = ex_ X d 67 47 [v0, v1, v2, .int x] [.int x] h Q := ex_nx (show mx_at 67 46 = some (.iload_n 3, 1) by decide +kernel) rfl
set_option maxRecDepth 20000 in
theorem i67_47 : ex_ X d 67 47 [v0, v1, v2, v3] [.int x] h Q = if x < 0 then ex_ X d 67 59 [v0, v1, v2, v3] [] h Q else ex_ X d 67 50 [v0, v1, v2, v3] [] h Q := (R_br (show mx_at 67 47 = some (.ifCond .lt 12, 3) by decide +kernel) rfl rfl).trans mx_ite
set_option maxRecDepth 20000 in
theorem i67_50 : ex_ X d 67 50 [.ref a, v1, v2, v3] [] h Q = ex_ X d 67 51 [.ref a, v1, v2, v3] [.ref a] h Q := ex_nx (show mx_at 67 50 = some (.aload_n 0, 1) by decide +kernel) rfl
set_option maxRecDepth 20000 in
theorem i67_51 (hc : co_ h a = some 10) : ex_ X (d + 1) 67 51 [v0, v1, v2, v3] [.ref a] h Q = ev_ X d 61 [.ref a] h (fun r h' => ex_ X (d + 1) 67 54 [v0, v1, v2, v3] (r.toList ++ []) h' Q) := R_vir (show mx_at 67 51 = some (.invokevirtual 61, 3) by decide +kernel) (mx_clk ow67 cc10_61) (Nat.le_of_ble_eq_true rfl) rfl rfl hc rfl (Nat.le_of_ble_eq_true rfl) (Nat.le_of_ble_eq_true rfl) (by rw [ml61]; exact Nat.le_of_ble_eq_true rfl)
set_option maxRecDepth 20000 in
theorem i67_54 : ex_ X d 67 54 [v0, v1, v2, v3] [w0] h Q = ex_ X d 67 56 [v0, v1, v2, v3] [.int 41, w0] h Q := R_bipush (show mx_at 67 54 = some (.bipush 41, 2) by decide +kernel) (by decide)
set_option maxRecDepth 20000 in
theorem i67_56 : ex_ X d 67 56 [v0, v1, v2, v3] [.int y, .int x] h Q = if x = y then ex_ X d 67 61 [v0, v1, v2, v3] [] h Q else ex_ X d 67 59 [v0, v1, v2, v3] [] h Q := (R_br (show mx_at 67 56 = some (.if_icmp .eq 5, 3) by decide +kernel) rfl rfl).trans mx_ite
set_option maxRecDepth 20000 in
theorem i67_59 : ex_ X d 67 59 [v0, v1, v2, v3] [] h Q = ex_ X d 67 60 [v0, v1, v2, v3] [.int (-1)] h Q := R_iconst (show mx_at 67 59 = some (.iconst (-1), 1) by decide +kernel) (by decide)
set_option maxRecDepth 20000 in
theorem i67_60 : ex_ X d 67 60 [v0, v1, v2, v3] [.int x] h Q = Q (some (.int x)) h := ex_ret (show mx_at 67 60 = some (.ireturn, 1) by decide +kernel) (mx_retI rt67)
set_option maxRecDepth 20000 in
theorem i67_61 : ex_ X d 67 61 [.ref a, v1, v2, v3] [] h Q = ex_ X d 67 62 [.ref a, v1, v2, v3] [.ref a] h Q := ex_nx (show mx_at 67 61 = some (.aload_n 0, 1) by decide +kernel) rfl
set_option maxRecDepth 20000 in
theorem i67_62 : ex_ X d 67 62 [v0, v1, v2, v3] [.ref a] h Q = ex_ X d 67 63 [v0, v1, v2, v3] [.ref a, .ref a] h Q := ex_nx (show mx_at 67 62 = some (.dup, 1) by decide +kernel) rfl
set_option maxRecDepth 20000 in
theorem i67_63 : ex_ X d 67 63 [v0, v1, v2, v3] [.ref a, w0] h Q = (gk_ h a 3 [(10, 0)] = true ∧ ex_ X d 67 66 [v0, v1, v2, v3] [gv_ h a 3, w0] h Q) := R_getf (show mx_at 67 63 = some (.getfield 51, 3) by decide +kernel) (mx_fdo ow67 fd100051)
set_option maxRecDepth 20000 in
theorem i67_66 : ex_ X d 67 66 [v0, v1, v2, v3] [w0, w1] h Q = ex_ X d 67 67 [v0, v1, v2, v3] [.int 1, w0, w1] h Q := R_iconst (show mx_at 67 66 = some (.iconst 1, 1) by decide +kernel) (by decide)
set_option maxRecDepth 20000 in
theorem i67_67 : ex_ X d 67 67 [v0, v1, v2, v3] [.int y, .int x, w0] h Q = ex_ X d 67 68 [v0, v1, v2, v3] [.int (x + y), w0] h Q := ex_nx (show mx_at 67 67 = some (.iadd, 1) by decide +kernel) rfl
set_option maxRecDepth 20000 in
theorem i67_68 : ex_ X d 67 68 [v0, v1, v2, v3] [w, .ref a] h Q = (pk_ 67 h a 3 w [(10, 0)] = true ∧ ex_ X d 67 71 [v0, v1, v2, v3] [] (pf_ h a 3 w) Q) := R_putf (show mx_at 67 68 = some (.putfield 51, 3) by decide +kernel) (mx_fdo ow67 fd100051)
set_option maxRecDepth 20000 in
theorem i67_71 : ex_ X d 67 71 [v0, v1, v2, .int x] [] h Q = ex_ X d 67 72 [v0, v1, v2, .int x] [.int x] h Q := ex_nx (show mx_at 67 71 = some (.iload_n 3, 1) by decide +kernel) rfl
set_option maxRecDepth 20000 in
theorem i67_72 : ex_ X d 67 72 [v0, v1, v2, v3] [.int x] h Q = Q (some (.int x)) h := ex_ret (show mx_at 67 72 = some (.ireturn, 1) by decide +kernel) (mx_retI rt67)
theorem i67_e : ev_ X d 67 [.ref a, .int x0, .int x1] h Q = ex_ X d 67 0 [.ref a, .int x0, .int x1, .double 0] [] h Q := by rw [ev_, ml67]; rfl
-- 68 X10_readNumber
set_option maxRecDepth 20000 in
theorem i68_0 : ex_ X d 68 0 [v0, v1, v2] [] h Q = ex_ X d 68 1 [v0, v1, v2] [.int 0] h Q := R_iconst (show mx_at 68 0 = some (.iconst 0, 1) by decide +kernel) (by decide)
set_option maxRecDepth 20000 in
theorem i68_1 : ex_ X d 68 1 [v0, v1, v2] [.int x] h Q = (mx_nl v0 = true ∧ ex_ X d 68 2 [v0, .int x, v2] [] h Q) := mx_t1 (R_st (ok := mx_isI) (n := 1) (w := 1) (show mx_at 68 1 = some (.istore_n 1, 1) by decide +kernel) (fun _ _ => rfl) (Nat.le_of_ble_eq_true rfl)) rfl
set_option maxRecDepth 20000 in
theorem i68_2 : ex_ X d 68 2 [v0, v1, v2] [] h Q = ex_ X d 68 3 [v0, v1, v2] [.int 0] h Q := R_iconst (show mx_at 68 2 = some (.iconst 0, 1) by decide +kernel) (by decide)
set_option maxRecDepth 20000 in
theorem i68_3 : ex_ X d 68 3 [v0, v1, v2] [.int x] h Q = (mx_nl v1 = true ∧ ex_ X d 68 4 [v0, v1, .int x] [] h Q) := mx_t1 (R_st (ok := mx_isI) (n := 2) (w := 1) (show mx_at 68 3 = some (.istore_n 2, 1) by decide +kernel) (fun _ _ => rfl) (Nat.le_of_ble_eq_true rfl)) rfl
set_option maxRecDepth 20000 in
theorem i68_4 : ex_ X d 68 4 [v0, v1, .int x] [] h Q = ex_ X d 68 5 [v0, v1, .int x] [.int x] h Q := ex_nx (show mx_at 68 4 = some (.iload_n 2, 1) by decide +kernel) rfl
set_option maxRecDepth 20000 in
theorem i68_5 : ex_ X d 68 5 [v0, v1, v2] [w0] h Q = ex_ X d 68 6 [v0, v1, v2] [.int 4, w0] h Q := R_iconst (show mx_at 68 5 = some (.iconst 4, 1) by decide +kernel) (by decide)
set_option maxRecDepth 20000 in
theorem i68_6 : ex_ X d 68 6 [v0, v1, v2] [.int y, .int x] h Q = if y ≤ x then ex_ X d 68 48 [v0, v1, v2] [] h Q else ex_ X d 68 9 [v0, v1, v2] [] h Q := (R_br (show mx_at 68 6 = some (.if_icmp .ge 42, 3) by decide +kernel) rfl rfl).trans mx_ite
set_option maxRecDepth 20000 in
theorem i68_9 : ex_ X d 68 9 [.ref a, v1, v2] [] h Q = ex_ X d 68 10 [.ref a, v1, v2] [.ref a] h Q := ex_nx (show mx_at 68 9 = some (.aload_n 0, 1) by decide +kernel) rfl
set_option maxRecDepth 20000 in
theorem i68_10 (hc : co_ h a = some 10) : ex_ X (d + 1) 68 10 [v0, v1, v2] [.ref a] h Q = ev_ X d 61 [.ref a] h (fun r h' => ex_ X (d + 1) 68 13 [v0, v1, v2] (r.toList ++ []) h' Q) := R_vir (show mx_at 68 10 = some (.invokevirtual 61, 3) by decide +kernel) (mx_clk ow68 cc10_61) (Nat.le_of_ble_eq_true rfl) rfl rfl hc rfl (Nat.le_of_ble_eq_true rfl) (Nat.le_of_ble_eq_true rfl) (by rw [ml61]; exact Nat.le_of_ble_eq_true rfl)
set_option maxRecDepth 20000 in
theorem i68_13 : ex_ X (d + 1) 68 13 [v0, v1, v2] [.int x0] h Q = ev_ X d 62 [.int x0] h (fun r h' => ex_ X (d + 1) 68 16 [v0, v1, v2] (r.toList ++ []) h' Q) := R_stat (show mx_at 68 13 = some (.invokestatic 75, 3) by decide +kernel) (mx_clk ow68 cc10_75) (Nat.le_of_ble_eq_true rfl) rfl rfl (Nat.le_of_ble_eq_true rfl) ml62 (Nat.le_of_ble_eq_true rfl)
set_option maxRecDepth 20000 in
theorem i68_16 : ex_ X d 68 16 [v0, v1, v2] [.int x] h Q = if x = 0 then ex_ X d 68 48 [v0, v1, v2] [] h Q else ex_ X d 68 19 [v0, v1, v2] [] h Q := (R_br (show mx_at 68 16 = some (.ifCond .eq 32, 3) by decide +kernel) rfl rfl).trans mx_ite
set_option maxRecDepth 20000 in
theorem i68_19 : ex_ X d 68 19 [v0, .int x, v2] [] h Q = ex_ X d 68 20 [v0, .int x, v2] [.int x] h Q := ex_nx (show mx_at 68 19 = some (.iload_n 1, 1) by decide +kernel) rfl
set_option maxRecDepth 20000 in
theorem i68_20 : ex_ X d 68 20 [v0, v1, v2] [w0] h Q = ex_ X d 68 22 [v0, v1, v2] [.int 10, w0] h Q := R_bipush (show mx_at 68 20 = some (.bipush 10, 2) by decide +kernel) (by decide)
set_option maxRecDepth 20000 in
theorem i68_22 : ex_ X d 68 22 [v0, v1, v2] [.int y, .int x] h Q = ex_ X d 68 23 [v0, v1, v2] [.int (x * y)] h Q := ex_nx (show mx_at 68 22 = some (.imul, 1) by decide +kernel) rfl
set_option maxRecDepth 20000 in
theorem i68_23 : ex_ X d 68 23 [.ref a, v1, v2] [w0] h Q = ex_ X d 68 24 [.ref a, v1, v2] [.ref a, w0] h Q := ex_nx (show mx_at 68 23 = some (.aload_n 0, 1) by decide +kernel) rfl
set_option maxRecDepth 20000 in
theorem i68_24 (hc : co_ h a = some 10) : ex_ X (d + 1) 68 24 [v0, v1, v2] [.ref a, w0] h Q = ev_ X d 61 [.ref a] h (fun r h' => ex_ X (d + 1) 68 27 [v0, v1, v2] (r.toList ++ [w0]) h' Q) := R_vir (show mx_at 68 24 = some (.invokevirtual 61, 3) by decide +kernel) (mx_clk ow68 cc10_61) (Nat.le_of_ble_eq_true rfl) rfl rfl hc rfl (Nat.le_of_ble_eq_true rfl) (Nat.le_of_ble_eq_true rfl) (by rw [ml61]; exact Nat.le_of_ble_eq_true rfl)
set_option maxRecDepth 20000 in
theorem i68_27 : ex_ X d 68 27 [v0, v1, v2] [.int y, .int x] h Q = ex_ X d 68 28 [v0, v1, v2] [.int (x + y)] h Q := ex_nx (show mx_at 68 27 = some (.iadd, 1) by decide +kernel) rfl
set_option maxRecDepth 20000 in
theorem i68_28 : ex_ X d 68 28 [v0, v1, v2] [w0] h Q = ex_ X d 68 30 [v0, v1, v2] [.int 48, w0] h Q := R_bipush (show mx_at 68 28 = some (.bipush 48, 2) by decide +kernel) (by decide)
set_option maxRecDepth 20000 in
theorem i68_30 : ex_ X d 68 30 [v0, v1, v2] [.int y, .int x] h Q = ex_ X d 68 31 [v0, v1, v2] [.int (x - y)] h Q := ex_nx (show mx_at 68 30 = some (.isub, 1) by decide +kernel) rfl
set_option maxRecDepth 20000 in
theorem i68_31 : ex_ X d 68 31 [v0, v1, v2] [.int x] h Q = (mx_nl v0 = true ∧ ex_ X d 68 32 [v0, .int x, v2] [] h Q) := mx_t1 (R_st (ok := mx_isI) (n := 1) (w := 1) (show mx_at 68 31 = some (.istore_n 1, 1) by decide +kernel) (fun _ _ => rfl) (Nat.le_of_ble_eq_true rfl)) rfl
set_option maxRecDepth 20000 in
theorem i68_32 : ex_ X d 68 32 [.ref a, v1, v2] [] h Q = ex_ X d 68 33 [.ref a, v1, v2] [.ref a] h Q := ex_nx (show mx_at 68 32 = some (.aload_n 0, 1) by decide +kernel) rfl
set_option maxRecDepth 20000 in
theorem i68_33 : ex_ X d 68 33 [v0, v1, v2] [.ref a] h Q = ex_ X d 68 34 [v0, v1, v2] [.ref a, .ref a] h Q := ex_nx (show mx_at 68 33 = some (.dup, 1) by decide +kernel) rfl
set_option maxRecDepth 20000 in
theorem i68_34 : ex_ X d 68 34 [v0, v1, v2] [.ref a, w0] h Q = (gk_ h a 3 [(10, 0)] = true ∧ ex_ X d 68 37 [v0, v1, v2] [gv_ h a 3, w0] h Q) := R_getf (show mx_at 68 34 = some (.getfield 51, 3) by decide +kernel) (mx_fdo ow68 fd100051)
set_option maxRecDepth 20000 in
theorem i68_37 : ex_ X d 68 37 [v0, v1, v2] [w0, w1] h Q = ex_ X d 68 38 [v0, v1, v2] [.int 1, w0, w1] h Q := R_iconst (show mx_at 68 37 = some (.iconst 1, 1) by decide +kernel) (by decide)
set_option maxRecDepth 20000 in
theorem i68_38 : ex_ X d 68 38 [v0, v1, v2] [.int y, .int x, w0] h Q = ex_ X d 68 39 [v0, v1, v2] [.int (x + y), w0] h Q := ex_nx (show mx_at 68 38 = some (.iadd, 1) by decide +kernel) rfl
set_option maxRecDepth 20000 in
theorem i68_39 : ex_ X d 68 39 [v0, v1, v2] [w, .ref a] h Q = (pk_ 68 h a 3 w [(10, 0)] = true ∧ ex_ X d 68 42 [v0, v1, v2] [] (pf_ h a 3 w) Q) := R_putf (show mx_at 68 39 = some (.putfield 51, 3) by decide +kernel) (mx_fdo ow68 fd100051)
set_option maxRecDepth 20000 in
theorem i68_42 : ex_ X d 68 42 [v0, v1, .int x] [] h Q = (mx_nl v1 = true ∧ ex_ X d 68 45 [v0, v1, .int (x + 1)] [] h Q) := R_iinc (n := 2) (c := 1) (show mx_at 68 42 = some (.iinc 2 1, 3) by decide +kernel) rfl
set_option maxRecDepth 20000 in
theorem i68_45 : ex_ X d 68 45 [v0, v1, v2] [] h Q = ex_ X d 68 4 [v0, v1, v2] [] h Q := R_to (show mx_at 68 45 = some (.goto (-41), 3) by decide +kernel) rfl rfl
set_option maxRecDepth 20000 in
theorem i68_48 : ex_ X d 68 48 [.ref a, v1, v2] [] h Q = ex_ X d 68 49 [.ref a, v1, v2] [.ref a] h Q := ex_nx (show mx_at 68 48 = some (.aload_n 0, 1) by decide +kernel) rfl
set_option maxRecDepth 20000 in
theorem i68_49 : ex_ X d 68 49 [v0, v1, v2] [w0] h Q = ex_ X d 68 50 [v0, v1, v2] [.int 0, w0] h Q := R_iconst (show mx_at 68 49 = some (.iconst 0, 1) by decide +kernel) (by decide)
set_option maxRecDepth 20000 in
theorem i68_50 : ex_ X d 68 50 [v0, v1, v2] [w0, w1] h Q = ex_ X d 68 51 [v0, v1, v2] [.int 0, w0, w1] h Q := R_iconst (show mx_at 68 50 = some (.iconst 0, 1) by decide +kernel) (by decide)
set_option maxRecDepth 20000 in
theorem i68_51 : ex_ X d 68 51 [v0, v1, v2] [w0, w1, w2] h Q = ex_ X d 68 52 [v0, v1, v2] [.int 0, w0, w1, w2] h Q := R_iconst (show mx_at 68 51 = some (.iconst 0, 1) by decide +kernel) (by decide)
set_option maxRecDepth 20000 in
theorem i68_52 (hc : co_ h a = some 10) : ex_ X (d + 1) 68 52 [v0, v1, v2] [.int x2, .int x1, .int x0, .ref a] h Q = ev_ X d 64 [.ref a, .int x0, .int x1, .int x2] h (fun r h' => ex_ X (d + 1) 68 55 [v0, v1, v2] (r.toList ++ []) h' Q) := R_vir (show mx_at 68 52 = some (.invokevirtual 68, 3) by decide +kernel) (mx_clk ow68 cc10_68) (Nat.le_of_ble_eq_true rfl) rfl rfl hc rfl (Nat.le_of_ble_eq_true rfl) (Nat.le_of_ble_eq_true rfl) (by rw [ml64]; exact Nat.le_of_ble_eq_true rfl)
set_option maxRecDepth 20000 in
theorem i68_55 : ex_ X d 68 55 [v0, v1, v2] [.int x] h Q = (mx_nl v1 = true ∧ ex_ X d 68 56 [v0, v1, .int x] [] h Q) := mx_t1 (R_st (ok := mx_isI) (n := 2) (w := 1) (show mx_at 68 55 = some (.istore_n 2, 1) by decide +kernel) (fun _ _ => rfl) (Nat.le_of_ble_eq_true rfl)) rfl
set_option maxRecDepth 20000 in
theorem i68_56 : ex_ X d 68 56 [v0, v1, .int x] [] h Q = ex_ X d 68 57 [v0, v1, .int x] [.int x] h Q := ex_nx (show mx_at 68 56 = some (.iload_n 2, 1) by decide +kernel) rfl
set_option maxRecDepth 20000 in
theorem i68_57 : ex_ X d 68 57 [v0, v1, v2] [.int x] h Q = if x < 0 then ex_ X d 68 67 [v0, v1, v2] [] h Q else ex_ X d 68 60 [v0, v1, v2] [] h Q := (R_br (show mx_at 68 57 = some (.ifCond .lt 10, 3) by decide +kernel) rfl rfl).trans mx_ite
set_option maxRecDepth 20000 in
theorem i68_60 : ex_ X d 68 60 [.ref a, v1, v2] [] h Q = ex_ X d 68 61 [.ref a, v1, v2] [.ref a] h Q := ex_nx (show mx_at 68 60 = some (.aload_n 0, 1) by decide +kernel) rfl
set_option maxRecDepth 20000 in
theorem i68_61 : ex_ X d 68 61 [v0, v1, v2] [.ref a] h Q = (gk_ h a 7 [(10, 0)] = true ∧ ex_ X d 68 64 [v0, v1, v2] [gv_ h a 7] h Q) := R_getf (show mx_at 68 61 = some (.getfield 44, 3) by decide +kernel) (mx_fdo ow68 fd100044)
set_option maxRecDepth 20000 in
theorem i68_64 : ex_ X d 68 64 [v0, v1, .int x] [w0] h Q = ex_ X d 68 65 [v0, v1, .int x] [.int x, w0] h Q := ex_nx (show mx_at 68 64 = some (.iload_n 2, 1) by decide +kernel) rfl
set_option maxRecDepth 20000 in
theorem i68_65 : ex_ X d 68 65 [v0, .int x, v2] [w0, w1] h Q = ex_ X d 68 66 [v0, .int x, v2] [.int x, w0, w1] h Q := ex_nx (show mx_at 68 65 = some (.iload_n 1, 1) by decide +kernel) rfl
set_option maxRecDepth 20000 in
theorem i68_66 : ex_ X d 68 66 [v0, v1, v2] [.int x, .int i, .ref a] h Q = (ik_ h a i = true ∧ ex_ X d 68 67 [v0, v1, v2] [] (is_ h a i x) Q) := R_iast (show mx_at 68 66 = some (.iastore, 1) by decide +kernel)
set_option maxRecDepth 20000 in
theorem i68_67 : ex_ X d 68 67 [v0, v1, .int x] [] h Q = ex_ X d 68 68 [v0, v1, .int x] [.int x] h Q := ex_nx (show mx_at 68 67 = some (.iload_n 2, 1) by decide +kernel) rfl
set_option maxRecDepth 20000 in
theorem i68_68 : ex_ X d 68 68 [v0, v1, v2] [.int x] h Q = Q (some (.int x)) h := ex_ret (show mx_at 68 68 = some (.ireturn, 1) by decide +kernel) (mx_retI rt68)
theorem i68_e : ev_ X d 68 [.ref a] h Q = ex_ X d 68 0 [.ref a, .double 0, .double 0] [] h Q := by rw [ev_, ml68]; rfl
-- 209 J0_indexOf_0f7a4
set_option maxRecDepth 20000 in
theorem i209_0 : ex_ X d 209 0 [.ref a, v1] [] h Q = ex_ X d 209 1 [.ref a, v1] [.ref a] h Q := ex_nx (show mx_at 209 0 = some (.aload_n 0, 1) by decide +kernel) rfl
set_option maxRecDepth 20000 in
theorem i209_0f0 : ex_ X d 209 0 [.float 2, v1] [] h Q = ex_ X d 209 1 [.float 2, v1] [.float 2] h Q := ex_nx (show mx_at 209 0 = some (.aload_n 0, 1) by decide +kernel) rfl
set_option maxRecDepth 20000 in
theorem i209_0f1 : ex_ X d 209 0 [.float 3, v1] [] h Q = ex_ X d 209 1 [.float 3, v1] [.float 3] h Q := ex_nx (show mx_at 209 0 = some (.aload_n 0, 1) by decide +kernel) rfl
set_option maxRecDepth 20000 in
theorem i209_0f2 : ex_ X d 209 0 [.float 4, v1] [] h Q = ex_ X d 209 1 [.float 4, v1] [.float 4] h Q := ex_nx (show mx_at 209 0 = some (.aload_n 0, 1) by decide +kernel) rfl
set_option maxRecDepth 20000 in
theorem i209_0f3 : ex_ X d 209 0 [.float 5, v1] [] h Q = ex_ X d 209 1 [.float 5, v1] [.float 5] h Q := ex_nx (show mx_at 209 0 = some (.aload_n 0, 1) by decide +kernel) rfl
set_option maxRecDepth 20000 in
theorem i209_1 : ex_ X d 209 1 [v0, .int x] [w0] h Q = ex_ X d 209 2 [v0, .int x] [.int x, w0] h Q := ex_nx (show mx_at 209 1 = some (.iload_n 1, 1) by decide +kernel) rfl
set_option maxRecDepth 20000 in
theorem i209_2 : ex_ X d 209 2 [v0, v1] [w0, w1] h Q = ex_ X d 209 3 [v0, v1] [.int 0, w0, w1] h Q := R_iconst (show mx_at 209 2 = some (.iconst 0, 1) by decide +kernel) (by decide)
set_option maxRecDepth 20000 in
theorem i209_3f0 : ex_ X (d + 1) 209 3 [v0, v1] [.int x1, .int x0, .float 2] h Q = ev_ X d 210 [.float 2, .int x0, .int x1] h (fun r h' => ex_ X (d + 1) 209 6 [v0, v1] (r.toList ++ []) h' Q) := R_virx (show mx_at 209 3 = some (.invokevirtual 633, 3) by decide +kernel) (mx_clk ow209 cc15_633) (Nat.le_of_ble_eq_true rfl) rfl rfl (by decide) rfl (Nat.le_of_ble_eq_true rfl) (by rw [ml210]; exact Nat.le_of_ble_eq_true rfl)
set_option maxRecDepth 20000 in
theorem i209_3f1 : ex_ X (d + 1) 209 3 [v0, v1] [.int x1, .int x0, .float 3] h Q = ev_ X d 210 [.float 3, .int x0, .int x1] h (fun r h' => ex_ X (d + 1) 209 6 [v0, v1] (r.toList ++ []) h' Q) := R_virx (show mx_at 209 3 = some (.invokevirtual 633, 3) by decide +kernel) (mx_clk ow209 cc15_633) (Nat.le_of_ble_eq_true rfl) rfl rfl (by decide) rfl (Nat.le_of_ble_eq_true rfl) (by rw [ml210]; exact Nat.le_of_ble_eq_true rfl)
set_option maxRecDepth 20000 in
theorem i209_6 : ex_ X d 209 6 [v0, v1] [.int x] h Q = Q (some (.int x)) h := ex_ret (show mx_at 209 6 = some (.ireturn, 1) by decide +kernel) (mx_retI rt209)
theorem i209_e0 : ev_ X d 209 [.float 2, .int x0] h Q = ex_ X d 209 0 [.float 2, .int x0] [] h Q := by rw [ev_, ml209]; rfl
theorem i209_e1 : ev_ X d 209 [.float 3, .int x0] h Q = ex_ X d 209 0 [.float 3, .int x0] [] h Q := by rw [ev_, ml209]; rfl
-- 210 J0_indexOf_7cf53
set_option maxRecDepth 20000 in
theorem i210_0 : ex_ X d 210 0 [.ref a, v1, v2] [] h Q = ex_ X d 210 1 [.ref a, v1, v2] [.ref a] h Q := ex_nx (show mx_at 210 0 = some (.aload_n 0, 1) by decide +kernel) rfl
set_option maxRecDepth 20000 in
theorem i210_0f0 : ex_ X d 210 0 [.float 2, v1, v2] [] h Q = ex_ X d 210 1 [.float 2, v1, v2] [.float 2] h Q := ex_nx (show mx_at 210 0 = some (.aload_n 0, 1) by decide +kernel) rfl
set_option maxRecDepth 20000 in
theorem i210_0f1 : ex_ X d 210 0 [.float 3, v1, v2] [] h Q = ex_ X d 210 1 [.float 3, v1, v2] [.float 3] h Q := ex_nx (show mx_at 210 0 = some (.aload_n 0, 1) by decide +kernel) rfl
set_option maxRecDepth 20000 in
theorem i210_0f2 : ex_ X d 210 0 [.float 4, v1, v2] [] h Q = ex_ X d 210 1 [.float 4, v1, v2] [.float 4] h Q := ex_nx (show mx_at 210 0 = some (.aload_n 0, 1) by decide +kernel) rfl
set_option maxRecDepth 20000 in
theorem i210_0f3 : ex_ X d 210 0 [.float 5, v1, v2] [] h Q = ex_ X d 210 1 [.float 5, v1, v2] [.float 5] h Q := ex_nx (show mx_at 210 0 = some (.aload_n 0, 1) by decide +kernel) rfl
set_option maxRecDepth 20000 in
theorem i210_1f0 : ex_ X (d + 1) 210 1 [v0, v1, v2] [.float 2] h Q = ev_ X d 211 [.float 2] h (fun r h' => ex_ X (d + 1) 210 4 [v0, v1, v2] (r.toList ++ []) h' Q) := R_virx (show mx_at 210 1 = some (.invokevirtual 492, 3) by decide +kernel) (mx_clk ow210 cc15_492) (Nat.le_of_ble_eq_true rfl) rfl rfl (by decide) rfl (Nat.le_of_ble_eq_true rfl) (by rw [ml211]; exact Nat.le_of_ble_eq_true rfl)
set_option maxRecDepth 20000 in
theorem i210_1f1 : ex_ X (d + 1) 210 1 [v0, v1, v2] [.float 3] h Q = ev_ X d 211 [.float 3] h (fun r h' => ex_ X (d + 1) 210 4 [v0, v1, v2] (r.toList ++ []) h' Q) := R_virx (show mx_at 210 1 = some (.invokevirtual 492, 3) by decide +kernel) (mx_clk ow210 cc15_492) (Nat.le_of_ble_eq_true rfl) rfl rfl (by decide) rfl (Nat.le_of_ble_eq_true rfl) (by rw [ml211]; exact Nat.le_of_ble_eq_true rfl)
set_option maxRecDepth 20000 in
theorem i210_4 : ex_ X d 210 4 [v0, v1, v2] [.int x] h Q = if x = 0 then ex_ X d 210 23 [v0, v1, v2] [] h Q else ex_ X d 210 7 [v0, v1, v2] [] h Q := (R_br (show mx_at 210 4 = some (.ifCond .eq 19, 3) by decide +kernel) rfl rfl).trans mx_ite
set_option maxRecDepth 20000 in
theorem i210_7 : ex_ X d 210 7 [.ref a, v1, v2] [] h Q = ex_ X d 210 8 [.ref a, v1, v2] [.ref a] h Q := ex_nx (show mx_at 210 7 = some (.aload_n 0, 1) by decide +kernel) rfl
set_option maxRecDepth 20000 in
theorem i210_7f0 : ex_ X d 210 7 [.float 2, v1, v2] [] h Q = ex_ X d 210 8 [.float 2, v1, v2] [.float 2] h Q := ex_nx (show mx_at 210 7 = some (.aload_n 0, 1) by decide +kernel) rfl
set_option maxRecDepth 20000 in
theorem i210_7f1 : ex_ X d 210 7 [.float 3, v1, v2] [] h Q = ex_ X d 210 8 [.float 3, v1, v2] [.float 3] h Q := ex_nx (show mx_at 210 7 = some (.aload_n 0, 1) by decide +kernel) rfl
set_option maxRecDepth 20000 in
theorem i210_7f2 : ex_ X d 210 7 [.float 4, v1, v2] [] h Q = ex_ X d 210 8 [.float 4, v1, v2] [.float 4] h Q := ex_nx (show mx_at 210 7 = some (.aload_n 0, 1) by decide +kernel) rfl
set_option maxRecDepth 20000 in
theorem i210_7f3 : ex_ X d 210 7 [.float 5, v1, v2] [] h Q = ex_ X d 210 8 [.float 5, v1, v2] [.float 5] h Q := ex_nx (show mx_at 210 7 = some (.aload_n 0, 1) by decide +kernel) rfl
set_option maxRecDepth 20000 in
theorem i210_8f0 : ex_ X d 210 8 [v0, v1, v2] [.float 2] h Q = ex_ X d 210 11 [v0, v1, v2] [.float 4] h Q := R_getfx (show mx_at 210 8 = some (.getfield 9, 3) by decide +kernel) (by decide +kernel)
set_option maxRecDepth 20000 in
theorem i210_8f1 : ex_ X d 210 8 [v0, v1, v2] [.float 3] h Q = ex_ X d 210 11 [v0, v1, v2] [.float 5] h Q := R_getfx (show mx_at 210 8 = some (.getfield 9, 3) by decide +kernel) (by decide +kernel)
set_option maxRecDepth 20000 in
theorem i210_11 : ex_ X d 210 11 [v0, .int x, v2] [w0] h Q = ex_ X d 210 12 [v0, .int x, v2] [.int x, w0] h Q := ex_nx (show mx_at 210 11 = some (.iload_n 1, 1) by decide +kernel) rfl
set_option maxRecDepth 20000 in
theorem i210_12 : ex_ X d 210 12 [v0, v1, .int x] [w0, w1] h Q = ex_ X d 210 13 [v0, v1, .int x] [.int x, w0, w1] h Q := ex_nx (show mx_at 210 12 = some (.iload_n 2, 1) by decide +kernel) rfl
set_option maxRecDepth 20000 in
theorem i210_13 : ex_ X d 210 13 [.ref a, v1, v2] [w0, w1, w2] h Q = ex_ X d 210 14 [.ref a, v1, v2] [.ref a, w0, w1, w2] h Q := ex_nx (show mx_at 210 13 = some (.aload_n 0, 1) by decide +kernel) rfl
set_option maxRecDepth 20000 in
theorem i210_13f0 : ex_ X d 210 13 [.float 2, v1, v2] [w0, w1, w2] h Q = ex_ X d 210 14 [.float 2, v1, v2] [.float 2, w0, w1, w2] h Q := ex_nx (show mx_at 210 13 = some (.aload_n 0, 1) by decide +kernel) rfl
set_option maxRecDepth 20000 in
theorem i210_13f1 : ex_ X d 210 13 [.float 3, v1, v2] [w0, w1, w2] h Q = ex_ X d 210 14 [.float 3, v1, v2] [.float 3, w0, w1, w2] h Q := ex_nx (show mx_at 210 13 = some (.aload_n 0, 1) by decide +kernel) rfl
set_option maxRecDepth 20000 in
theorem i210_13f2 : ex_ X d 210 13 [.float 4, v1, v2] [w0, w1, w2] h Q = ex_ X d 210 14 [.float 4, v1, v2] [.float 4, w0, w1, w2] h Q := ex_nx (show mx_at 210 13 = some (.aload_n 0, 1) by decide +kernel) rfl
set_option maxRecDepth 20000 in
theorem i210_13f3 : ex_ X d 210 13 [.float 5, v1, v2] [w0, w1, w2] h Q = ex_ X d 210 14 [.float 5, v1, v2] [.float 5, w0, w1, w2] h Q := ex_nx (show mx_at 210 13 = some (.aload_n 0, 1) by decide +kernel) rfl
set_option maxRecDepth 20000 in
theorem i210_14f0 : ex_ X (d + 1) 210 14 [v0, v1, v2] [.float 2, w0, w1, w2] h Q = ev_ X d 212 [.float 2] h (fun r h' => ex_ X (d + 1) 210 17 [v0, v1, v2] (r.toList ++ [w0, w1, w2]) h' Q) := R_virx (show mx_at 210 14 = some (.invokevirtual 505, 3) by decide +kernel) (mx_clk ow210 cc15_505) (Nat.le_of_ble_eq_true rfl) rfl rfl (by decide) rfl (Nat.le_of_ble_eq_true rfl) (by rw [ml212]; exact Nat.le_of_ble_eq_true rfl)
set_option maxRecDepth 20000 in
theorem i210_14f1 : ex_ X (d + 1) 210 14 [v0, v1, v2] [.float 3, w0, w1, w2] h Q = ev_ X d 212 [.float 3] h (fun r h' => ex_ X (d + 1) 210 17 [v0, v1, v2] (r.toList ++ [w0, w1, w2]) h' Q) := R_virx (show mx_at 210 14 = some (.invokevirtual 505, 3) by decide +kernel) (mx_clk ow210 cc15_505) (Nat.le_of_ble_eq_true rfl) rfl rfl (by decide) rfl (Nat.le_of_ble_eq_true rfl) (by rw [ml212]; exact Nat.le_of_ble_eq_true rfl)
set_option maxRecDepth 20000 in
theorem i210_17f0 : ex_ X (d + 1) 210 17 [v0, v1, v2] [.int x3, .int x2, .int x1, .float 4] h Q = ev_ X d 214 [.float 4, .int x1, .int x2, .int x3] h (fun r h' => ex_ X (d + 1) 210 20 [v0, v1, v2] (r.toList ++ []) h' Q) := R_stat (show mx_at 210 17 = some (.invokestatic 637, 3) by decide +kernel) (mx_clk ow210 cc15_637) (Nat.le_of_ble_eq_true rfl) rfl rfl (Nat.le_of_ble_eq_true rfl) ml214 (Nat.le_of_ble_eq_true rfl)
set_option maxRecDepth 20000 in
theorem i210_17f1 : ex_ X (d + 1) 210 17 [v0, v1, v2] [.int x3, .int x2, .int x1, .float 5] h Q = ev_ X d 214 [.float 5, .int x1, .int x2, .int x3] h (fun r h' => ex_ X (d + 1) 210 20 [v0, v1, v2] (r.toList ++ []) h' Q) := R_stat (show mx_at 210 17 = some (.invokestatic 637, 3) by decide +kernel) (mx_clk ow210 cc15_637) (Nat.le_of_ble_eq_true rfl) rfl rfl (Nat.le_of_ble_eq_true rfl) ml214 (Nat.le_of_ble_eq_true rfl)
set_option maxRecDepth 20000 in
theorem i210_20 : ex_ X d 210 20 [v0, v1, v2] [w0] h Q = ex_ X d 210 36 [v0, v1, v2] [w0] h Q := R_to (show mx_at 210 20 = some (.goto 16, 3) by decide +kernel) rfl rfl
set_option maxRecDepth 20000 in
theorem i210_23 : ex_ X d 210 23 [.ref a, v1, v2] [] h Q = ex_ X d 210 24 [.ref a, v1, v2] [.ref a] h Q := ex_nx (show mx_at 210 23 = some (.aload_n 0, 1) by decide +kernel) rfl
set_option maxRecDepth 20000 in
theorem i210_23f0 : ex_ X d 210 23 [.float 2, v1, v2] [] h Q = ex_ X d 210 24 [.float 2, v1, v2] [.float 2] h Q := ex_nx (show mx_at 210 23 = some (.aload_n 0, 1) by decide +kernel) rfl
set_option maxRecDepth 20000 in
theorem i210_23f1 : ex_ X d 210 23 [.float 3, v1, v2] [] h Q = ex_ X d 210 24 [.float 3, v1, v2] [.float 3] h Q := ex_nx (show mx_at 210 23 = some (.aload_n 0, 1) by decide +kernel) rfl
set_option maxRecDepth 20000 in
theorem i210_23f2 : ex_ X d 210 23 [.float 4, v1, v2] [] h Q = ex_ X d 210 24 [.float 4, v1, v2] [.float 4] h Q := ex_nx (show mx_at 210 23 = some (.aload_n 0, 1) by decide +kernel) rfl
set_option maxRecDepth 20000 in
theorem i210_23f3 : ex_ X d 210 23 [.float 5, v1, v2] [] h Q = ex_ X d 210 24 [.float 5, v1, v2] [.float 5] h Q := ex_nx (show mx_at 210 23 = some (.aload_n 0, 1) by decide +kernel) rfl
set_option maxRecDepth 20000 in
theorem i210_24f0 : ex_ X d 210 24 [v0, v1, v2] [.float 2] h Q = ex_ X d 210 27 [v0, v1, v2] [.float 4] h Q := R_getfx (show mx_at 210 24 = some (.getfield 9, 3) by decide +kernel) (by decide +kernel)
set_option maxRecDepth 20000 in
theorem i210_24f1 : ex_ X d 210 24 [v0, v1, v2] [.float 3] h Q = ex_ X d 210 27 [v0, v1, v2] [.float 5] h Q := R_getfx (show mx_at 210 24 = some (.getfield 9, 3) by decide +kernel) (by decide +kernel)
set_option maxRecDepth 20000 in
theorem i210_27 : ex_ X d 210 27 [v0, .int x, v2] [w0] h Q = ex_ X d 210 28 [v0, .int x, v2] [.int x, w0] h Q := ex_nx (show mx_at 210 27 = some (.iload_n 1, 1) by decide +kernel) rfl
set_option maxRecDepth 20000 in
theorem i210_28 : ex_ X d 210 28 [v0, v1, .int x] [w0, w1] h Q = ex_ X d 210 29 [v0, v1, .int x] [.int x, w0, w1] h Q := ex_nx (show mx_at 210 28 = some (.iload_n 2, 1) by decide +kernel) rfl
set_option maxRecDepth 20000 in
theorem i210_29 : ex_ X d 210 29 [.ref a, v1, v2] [w0, w1, w2] h Q = ex_ X d 210 30 [.ref a, v1, v2] [.ref a, w0, w1, w2] h Q := ex_nx (show mx_at 210 29 = some (.aload_n 0, 1) by decide +kernel) rfl
set_option maxRecDepth 20000 in
theorem i210_29f0 : ex_ X d 210 29 [.float 2, v1, v2] [w0, w1, w2] h Q = ex_ X d 210 30 [.float 2, v1, v2] [.float 2, w0, w1, w2] h Q := ex_nx (show mx_at 210 29 = some (.aload_n 0, 1) by decide +kernel) rfl
set_option maxRecDepth 20000 in
theorem i210_29f1 : ex_ X d 210 29 [.float 3, v1, v2] [w0, w1, w2] h Q = ex_ X d 210 30 [.float 3, v1, v2] [.float 3, w0, w1, w2] h Q := ex_nx (show mx_at 210 29 = some (.aload_n 0, 1) by decide +kernel) rfl
set_option maxRecDepth 20000 in
theorem i210_29f2 : ex_ X d 210 29 [.float 4, v1, v2] [w0, w1, w2] h Q = ex_ X d 210 30 [.float 4, v1, v2] [.float 4, w0, w1, w2] h Q := ex_nx (show mx_at 210 29 = some (.aload_n 0, 1) by decide +kernel) rfl
set_option maxRecDepth 20000 in
theorem i210_29f3 : ex_ X d 210 29 [.float 5, v1, v2] [w0, w1, w2] h Q = ex_ X d 210 30 [.float 5, v1, v2] [.float 5, w0, w1, w2] h Q := ex_nx (show mx_at 210 29 = some (.aload_n 0, 1) by decide +kernel) rfl
set_option maxRecDepth 20000 in
theorem i210_30f0 : ex_ X (d + 1) 210 30 [v0, v1, v2] [.float 2, w0, w1, w2] h Q = ev_ X d 212 [.float 2] h (fun r h' => ex_ X (d + 1) 210 33 [v0, v1, v2] (r.toList ++ [w0, w1, w2]) h' Q) := R_virx (show mx_at 210 30 = some (.invokevirtual 505, 3) by decide +kernel) (mx_clk ow210 cc15_505) (Nat.le_of_ble_eq_true rfl) rfl rfl (by decide) rfl (Nat.le_of_ble_eq_true rfl) (by rw [ml212]; exact Nat.le_of_ble_eq_true rfl)
set_option maxRecDepth 20000 in
theorem i210_30f1 : ex_ X (d + 1) 210 30 [v0, v1, v2] [.float 3, w0, w1, w2] h Q = ev_ X d 212 [.float 3] h (fun r h' => ex_ X (d + 1) 210 33 [v0, v1, v2] (r.toList ++ [w0, w1, w2]) h' Q) := R_virx (show mx_at 210 30 = some (.invokevirtual 505, 3) by decide +kernel) (mx_clk ow210 cc15_505) (Nat.le_of_ble_eq_true rfl) rfl rfl (by decide) rfl (Nat.le_of_ble_eq_true rfl) (by rw [ml212]; exact Nat.le_of_ble_eq_true rfl)
set_option maxRecDepth 20000 in
theorem i210_36 : ex_ X d 210 36 [v0, v1, v2] [.int x] h Q = Q (some (.int x)) h := ex_ret (show mx_at 210 36 = some (.ireturn, 1) by decide +kernel) (mx_retI rt210)
theorem i210_e0 : ev_ X d 210 [.float 2, .int x0, .int x1] h Q = ex_ X d 210 0 [.float 2, .int x0, .int x1] [] h Q := by rw [ev_, ml210]; rfl
theorem i210_e1 : ev_ X d 210 [.float 3, .int x0, .int x1] h Q = ex_ X d 210 0 [.float 3, .int x0, .int x1] [] h Q := by rw [ev_, ml210]; rfl
-- 211 J0_isLatin1_aae02
set_option maxRecDepth 20000 in
theorem i211_0 : ex_ X d 211 0 [v0] [] h Q = ex_ X d 211 3 [v0] [.int 1] h Q := R_gets (show mx_at 211 0 = some (.getstatic 38, 3) by decide +kernel) (by decide +kernel)
set_option maxRecDepth 20000 in
theorem i211_3 : ex_ X d 211 3 [v0] [.int x] h Q = if x = 0 then ex_ X d 211 17 [v0] [] h Q else ex_ X d 211 6 [v0] [] h Q := (R_br (show mx_at 211 3 = some (.ifCond .eq 14, 3) by decide +kernel) rfl rfl).trans mx_ite
set_option maxRecDepth 20000 in
theorem i211_6 : ex_ X d 211 6 [.ref a] [] h Q = ex_ X d 211 7 [.ref a] [.ref a] h Q := ex_nx (show mx_at 211 6 = some (.aload_n 0, 1) by decide +kernel) rfl
set_option maxRecDepth 20000 in
theorem i211_6f0 : ex_ X d 211 6 [.float 2] [] h Q = ex_ X d 211 7 [.float 2] [.float 2] h Q := ex_nx (show mx_at 211 6 = some (.aload_n 0, 1) by decide +kernel) rfl
set_option maxRecDepth 20000 in
theorem i211_6f1 : ex_ X d 211 6 [.float 3] [] h Q = ex_ X d 211 7 [.float 3] [.float 3] h Q := ex_nx (show mx_at 211 6 = some (.aload_n 0, 1) by decide +kernel) rfl
set_option maxRecDepth 20000 in
theorem i211_6f2 : ex_ X d 211 6 [.float 4] [] h Q = ex_ X d 211 7 [.float 4] [.float 4] h Q := ex_nx (show mx_at 211 6 = some (.aload_n 0, 1) by decide +kernel) rfl
set_option maxRecDepth 20000 in
theorem i211_6f3 : ex_ X d 211 6 [.float 5] [] h Q = ex_ X d 211 7 [.float 5] [.float 5] h Q := ex_nx (show mx_at 211 6 = some (.aload_n 0, 1) by decide +kernel) rfl
set_option maxRecDepth 20000 in
theorem i211_7f0 : ex_ X d 211 7 [v0] [.float 2] h Q = ex_ X d 211 10 [v0] [.int 0] h Q := R_getfx (show mx_at 211 7 = some (.getfield 15, 3) by decide +kernel) (by decide +kernel)
set_option maxRecDepth 20000 in
theorem i211_7f1 : ex_ X d 211 7 [v0] [.float 3] h Q = ex_ X d 211 10 [v0] [.int 0] h Q := R_getfx (show mx_at 211 7 = some (.getfield 15, 3) by decide +kernel) (by decide +kernel)
set_option maxRecDepth 20000 in
theorem i211_10 : ex_ X d 211 10 [v0] [.int x] h Q = if ¬ x = 0 then ex_ X d 211 17 [v0] [] h Q else ex_ X d 211 13 [v0] [] h Q := (R_br (show mx_at 211 10 = some (.ifCond .ne 7, 3) by decide +kernel) rfl rfl).trans mx_ite
set_option maxRecDepth 20000 in
theorem i211_13 : ex_ X d 211 13 [v0] [] h Q = ex_ X d 211 14 [v0] [.int 1] h Q := R_iconst (show mx_at 211 13 = some (.iconst 1, 1) by decide +kernel) (by decide)
set_option maxRecDepth 20000 in
theorem i211_14 : ex_ X d 211 14 [v0] [w0] h Q = ex_ X d 211 18 [v0] [w0] h Q := R_to (show mx_at 211 14 = some (.goto 4, 3) by decide +kernel) rfl rfl
set_option maxRecDepth 20000 in
theorem i211_17 : ex_ X d 211 17 [v0] [] h Q = ex_ X d 211 18 [v0] [.int 0] h Q := R_iconst (show mx_at 211 17 = some (.iconst 0, 1) by decide +kernel) (by decide)
set_option maxRecDepth 20000 in
theorem i211_18 (hx : x = 0 ∨ x = 1) : ex_ X d 211 18 [v0] [.int x] h Q = Q (some (.int x)) h := ex_ret (show mx_at 211 18 = some (.ireturn, 1) by decide +kernel) (mx_retZ hx rt211)
theorem i211_e0 : ev_ X d 211 [.float 2] h Q = ex_ X d 211 0 [.float 2] [] h Q := by rw [ev_, ml211]; rfl
theorem i211_e1 : ev_ X d 211 [.float 3] h Q = ex_ X d 211 0 [.float 3] [] h Q := by rw [ev_, ml211]; rfl
-- 212 J0_length_8abf5
set_option maxRecDepth 20000 in
theorem i212_0 : ex_ X d 212 0 [.ref a] [] h Q = ex_ X d 212 1 [.ref a] [.ref a] h Q := ex_nx (show mx_at 212 0 = some (.aload_n 0, 1) by decide +kernel) rfl
set_option maxRecDepth 20000 in
theorem i212_0f0 : ex_ X d 212 0 [.float 2] [] h Q = ex_ X d 212 1 [.float 2] [.float 2] h Q := ex_nx (show mx_at 212 0 = some (.aload_n 0, 1) by decide +kernel) rfl
set_option maxRecDepth 20000 in
theorem i212_0f1 : ex_ X d 212 0 [.float 3] [] h Q = ex_ X d 212 1 [.float 3] [.float 3] h Q := ex_nx (show mx_at 212 0 = some (.aload_n 0, 1) by decide +kernel) rfl
set_option maxRecDepth 20000 in
theorem i212_0f2 : ex_ X d 212 0 [.float 4] [] h Q = ex_ X d 212 1 [.float 4] [.float 4] h Q := ex_nx (show mx_at 212 0 = some (.aload_n 0, 1) by decide +kernel) rfl
set_option maxRecDepth 20000 in
theorem i212_0f3 : ex_ X d 212 0 [.float 5] [] h Q = ex_ X d 212 1 [.float 5] [.float 5] h Q := ex_nx (show mx_at 212 0 = some (.aload_n 0, 1) by decide +kernel) rfl
set_option maxRecDepth 20000 in
theorem i212_1f0 : ex_ X d 212 1 [v0] [.float 2] h Q = ex_ X d 212 4 [v0] [.float 4] h Q := R_getfx (show mx_at 212 1 = some (.getfield 9, 3) by decide +kernel) (by decide +kernel)
set_option maxRecDepth 20000 in
theorem i212_1f1 : ex_ X d 212 1 [v0] [.float 3] h Q = ex_ X d 212 4 [v0] [.float 5] h Q := R_getfx (show mx_at 212 1 = some (.getfield 9, 3) by decide +kernel) (by decide +kernel)
set_option maxRecDepth 20000 in
theorem i212_4 (ha : al_ h a = some b) : ex_ X d 212 4 [v0] [.ref a] h Q = ex_ X d 212 5 [v0] [.int (Int32.ofNat b)] h Q := R_alen (show mx_at 212 4 = some (.arraylength, 1) by decide +kernel) ha
set_option maxRecDepth 20000 in
theorem i212_4f0 : ex_ X d 212 4 [v0] [.float 4] h Q = ex_ X d 212 5 [v0] [.int 4] h Q := ex_nx (show mx_at 212 4 = some (.arraylength, 1) by decide +kernel) rfl
set_option maxRecDepth 20000 in
theorem i212_4f1 : ex_ X d 212 4 [v0] [.float 5] h Q = ex_ X d 212 5 [v0] [.int 4] h Q := ex_nx (show mx_at 212 4 = some (.arraylength, 1) by decide +kernel) rfl
set_option maxRecDepth 20000 in
theorem i212_5 : ex_ X d 212 5 [.ref a] [w0] h Q = ex_ X d 212 6 [.ref a] [.ref a, w0] h Q := ex_nx (show mx_at 212 5 = some (.aload_n 0, 1) by decide +kernel) rfl
set_option maxRecDepth 20000 in
theorem i212_5f0 : ex_ X d 212 5 [.float 2] [w0] h Q = ex_ X d 212 6 [.float 2] [.float 2, w0] h Q := ex_nx (show mx_at 212 5 = some (.aload_n 0, 1) by decide +kernel) rfl
set_option maxRecDepth 20000 in
theorem i212_5f1 : ex_ X d 212 5 [.float 3] [w0] h Q = ex_ X d 212 6 [.float 3] [.float 3, w0] h Q := ex_nx (show mx_at 212 5 = some (.aload_n 0, 1) by decide +kernel) rfl
set_option maxRecDepth 20000 in
theorem i212_5f2 : ex_ X d 212 5 [.float 4] [w0] h Q = ex_ X d 212 6 [.float 4] [.float 4, w0] h Q := ex_nx (show mx_at 212 5 = some (.aload_n 0, 1) by decide +kernel) rfl
set_option maxRecDepth 20000 in
theorem i212_5f3 : ex_ X d 212 5 [.float 5] [w0] h Q = ex_ X d 212 6 [.float 5] [.float 5, w0] h Q := ex_nx (show mx_at 212 5 = some (.aload_n 0, 1) by decide +kernel) rfl
set_option maxRecDepth 20000 in
theorem i212_6f0 : ex_ X (d + 1) 212 6 [v0] [.float 2, w0] h Q = ev_ X d 213 [.float 2] h (fun r h' => ex_ X (d + 1) 212 9 [v0] (r.toList ++ [w0]) h' Q) := R_virx (show mx_at 212 6 = some (.invokevirtual 335, 3) by decide +kernel) (mx_clk ow212 cc15_335) (Nat.le_of_ble_eq_true rfl) rfl rfl (by decide) rfl (Nat.le_of_ble_eq_true rfl) (by rw [ml213]; exact Nat.le_of_ble_eq_true rfl)
set_option maxRecDepth 20000 in
theorem i212_6f1 : ex_ X (d + 1) 212 6 [v0] [.float 3, w0] h Q = ev_ X d 213 [.float 3] h (fun r h' => ex_ X (d + 1) 212 9 [v0] (r.toList ++ [w0]) h' Q) := R_virx (show mx_at 212 6 = some (.invokevirtual 335, 3) by decide +kernel) (mx_clk ow212 cc15_335) (Nat.le_of_ble_eq_true rfl) rfl rfl (by decide) rfl (Nat.le_of_ble_eq_true rfl) (by rw [ml213]; exact Nat.le_of_ble_eq_true rfl)
set_option maxRecDepth 20000 in
theorem i212_9 : ex_ X d 212 9 [v0] [.int y, .int x] h Q = ex_ X d 212 10 [v0] [.int (x >>> (y &&& 31))] h Q := ex_nx (show mx_at 212 9 = some (.ishr, 1) by decide +kernel) rfl
set_option maxRecDepth 20000 in
theorem i212_10 : ex_ X d 212 10 [v0] [.int x] h Q = Q (some (.int x)) h := ex_ret (show mx_at 212 10 = some (.ireturn, 1) by decide +kernel) (mx_retI rt212)
theorem i212_e0 : ev_ X d 212 [.float 2] h Q = ex_ X d 212 0 [.float 2] [] h Q := by rw [ev_, ml212]; rfl
theorem i212_e1 : ev_ X d 212 [.float 3] h Q = ex_ X d 212 0 [.float 3] [] h Q := by rw [ev_, ml212]; rfl
-- 213 J0_coder_7d493
set_option maxRecDepth 20000 in
theorem i213_0 : ex_ X d 213 0 [v0] [] h Q = ex_ X d 213 3 [v0] [.int 1] h Q := R_gets (show mx_at 213 0 = some (.getstatic 38, 3) by decide +kernel) (by decide +kernel)
set_option maxRecDepth 20000 in
theorem i213_3 : ex_ X d 213 3 [v0] [.int x] h Q = if x = 0 then ex_ X d 213 13 [v0] [] h Q else ex_ X d 213 6 [v0] [] h Q := (R_br (show mx_at 213 3 = some (.ifCond .eq 10, 3) by decide +kernel) rfl rfl).trans mx_ite
set_option maxRecDepth 20000 in
theorem i213_6 : ex_ X d 213 6 [.ref a] [] h Q = ex_ X d 213 7 [.ref a] [.ref a] h Q := ex_nx (show mx_at 213 6 = some (.aload_n 0, 1) by decide +kernel) rfl
set_option maxRecDepth 20000 in
theorem i213_6f0 : ex_ X d 213 6 [.float 2] [] h Q = ex_ X d 213 7 [.float 2] [.float 2] h Q := ex_nx (show mx_at 213 6 = some (.aload_n 0, 1) by decide +kernel) rfl
set_option maxRecDepth 20000 in
theorem i213_6f1 : ex_ X d 213 6 [.float 3] [] h Q = ex_ X d 213 7 [.float 3] [.float 3] h Q := ex_nx (show mx_at 213 6 = some (.aload_n 0, 1) by decide +kernel) rfl
set_option maxRecDepth 20000 in
theorem i213_6f2 : ex_ X d 213 6 [.float 4] [] h Q = ex_ X d 213 7 [.float 4] [.float 4] h Q := ex_nx (show mx_at 213 6 = some (.aload_n 0, 1) by decide +kernel) rfl
set_option maxRecDepth 20000 in
theorem i213_6f3 : ex_ X d 213 6 [.float 5] [] h Q = ex_ X d 213 7 [.float 5] [.float 5] h Q := ex_nx (show mx_at 213 6 = some (.aload_n 0, 1) by decide +kernel) rfl
set_option maxRecDepth 20000 in
theorem i213_7f0 : ex_ X d 213 7 [v0] [.float 2] h Q = ex_ X d 213 10 [v0] [.int 0] h Q := R_getfx (show mx_at 213 7 = some (.getfield 15, 3) by decide +kernel) (by decide +kernel)
set_option maxRecDepth 20000 in
theorem i213_7f1 : ex_ X d 213 7 [v0] [.float 3] h Q = ex_ X d 213 10 [v0] [.int 0] h Q := R_getfx (show mx_at 213 7 = some (.getfield 15, 3) by decide +kernel) (by decide +kernel)
set_option maxRecDepth 20000 in
theorem i213_10 : ex_ X d 213 10 [v0] [w0] h Q = ex_ X d 213 14 [v0] [w0] h Q := R_to (show mx_at 213 10 = some (.goto 4, 3) by decide +kernel) rfl rfl
set_option maxRecDepth 20000 in
theorem i213_13 : ex_ X d 213 13 [v0] [] h Q = ex_ X d 213 14 [v0] [.int 1] h Q := R_iconst (show mx_at 213 13 = some (.iconst 1, 1) by decide +kernel) (by decide)
set_option maxRecDepth 20000 in
theorem i213_14 : ex_ X d 213 14 [v0] [.int 0] h Q = Q (some (.int 0)) h := ex_ret (show mx_at 213 14 = some (.ireturn, 1) by decide +kernel) (mx_ret_ rt213 rfl)
theorem i213_e0 : ev_ X d 213 [.float 2] h Q = ex_ X d 213 0 [.float 2] [] h Q := by rw [ev_, ml213]; rfl
theorem i213_e1 : ev_ X d 213 [.float 3] h Q = ex_ X d 213 0 [.float 3] [] h Q := by rw [ev_, ml213]; rfl
-- 214 J1_indexOf_4cfef
set_option maxRecDepth 20000 in
theorem i214_0 : ex_ X d 214 0 [v0, .int x, v2, v3] [] h Q = ex_ X d 214 1 [v0, .int x, v2, v3] [.int x] h Q := ex_nx (show mx_at 214 0 = some (.iload_n 1, 1) by decide +kernel) rfl
set_option maxRecDepth 20000 in
theorem i214_1 : ex_ X (d + 1) 214 1 [v0, v1, v2, v3] [.int x0] h Q = ev_ X d 215 [.int x0] h (fun r h' => ex_ X (d + 1) 214 4 [v0, v1, v2, v3] (r.toList ++ []) h' Q) := R_stat (show mx_at 214 1 = some (.invokestatic 88, 3) by decide +kernel) (mx_clk ow214 cc16_88) (Nat.le_of_ble_eq_true rfl) rfl rfl (Nat.le_of_ble_eq_true rfl) ml215 (Nat.le_of_ble_eq_true rfl)
set_option maxRecDepth 20000 in
theorem i214_4 : ex_ X d 214 4 [v0, v1, v2, v3] [.int x] h Q = if ¬ x = 0 then ex_ X d 214 9 [v0, v1, v2, v3] [] h Q else ex_ X d 214 7 [v0, v1, v2, v3] [] h Q := (R_br (show mx_at 214 4 = some (.ifCond .ne 5, 3) by decide +kernel) rfl rfl).trans mx_ite
set_option maxRecDepth 20000 in
theorem i214_7 : ex_ X d 214 7 [v0, v1, v2, v3] [] h Q = ex_ X d 214 8 [v0, v1, v2, v3] [.int (-1)] h Q := R_iconst (show mx_at 214 7 = some (.iconst (-1), 1) by decide +kernel) (by decide)
set_option maxRecDepth 20000 in
theorem i214_8 : ex_ X d 214 8 [v0, v1, v2, v3] [.int x] h Q = Q (some (.int x)) h := ex_ret (show mx_at 214 8 = some (.ireturn, 1) by decide +kernel) (mx_retI rt214)
set_option maxRecDepth 20000 in
theorem i214_9 : ex_ X d 214 9 [v0, v1, .int x, v3] [] h Q = ex_ X d 214 10 [v0, v1, .int x, v3] [.int x] h Q := ex_nx (show mx_at 214 9 = some (.iload_n 2, 1) by decide +kernel) rfl
set_option maxRecDepth 20000 in
theorem i214_10 : ex_ X d 214 10 [v0, v1, v2, v3] [w0] h Q = ex_ X d 214 11 [v0, v1, v2, v3] [.int 0, w0] h Q := R_iconst (show mx_at 214 10 = some (.iconst 0, 1) by decide +kernel) (by decide)
set_option maxRecDepth 20000 in
theorem i214_11 : ex_ X (d + 1) 214 11 [v0, v1, v2, v3] [.int y, .int x] h Q = ex_ X (d + 1) 214 14 [v0, v1, v2, v3] [.int (if x < y then y else x)] h Q := R_max (show mx_at 214 11 = some (.invokestatic 92, 3) by decide +kernel) (mx_clk ow214 cc16_92) (Nat.le_of_ble_eq_true rfl)
set_option maxRecDepth 20000 in
theorem i214_14 : ex_ X d 214 14 [v0, v1, v2, v3] [.int x] h Q = (mx_nl v1 = true ∧ ex_ X d 214 15 [v0, v1, .int x, v3] [] h Q) := mx_t1 (R_st (ok := mx_isI) (n := 2) (w := 1) (show mx_at 214 14 = some (.istore_n 2, 1) by decide +kernel) (fun _ _ => rfl) (Nat.le_of_ble_eq_true rfl)) rfl
set_option maxRecDepth 20000 in
theorem i214_15 : ex_ X d 214 15 [v0, v1, v2, .int x] [] h Q = ex_ X d 214 16 [v0, v1, v2, .int x] [.int x] h Q := ex_nx (show mx_at 214 15 = some (.iload_n 3, 1) by decide +kernel) rfl
set_option maxRecDepth 20000 in
theorem i214_16 : ex_ X d 214 16 [.ref a, v1, v2, v3] [w0] h Q = ex_ X d 214 17 [.ref a, v1, v2, v3] [.ref a, w0] h Q := ex_nx (show mx_at 214 16 = some (.aload_n 0, 1) by decide +kernel) rfl
set_option maxRecDepth 20000 in
theorem i214_16f0 : ex_ X d 214 16 [.float 2, v1, v2, v3] [w0] h Q = ex_ X d 214 17 [.float 2, v1, v2, v3] [.float 2, w0] h Q := ex_nx (show mx_at 214 16 = some (.aload_n 0, 1) by decide +kernel) rfl
set_option maxRecDepth 20000 in
theorem i214_16f1 : ex_ X d 214 16 [.float 3, v1, v2, v3] [w0] h Q = ex_ X d 214 17 [.float 3, v1, v2, v3] [.float 3, w0] h Q := ex_nx (show mx_at 214 16 = some (.aload_n 0, 1) by decide +kernel) rfl
set_option maxRecDepth 20000 in
theorem i214_16f2 : ex_ X d 214 16 [.float 4, v1, v2, v3] [w0] h Q = ex_ X d 214 17 [.float 4, v1, v2, v3] [.float 4, w0] h Q := ex_nx (show mx_at 214 16 = some (.aload_n 0, 1) by decide +kernel) rfl
set_option maxRecDepth 20000 in
theorem i214_16f3 : ex_ X d 214 16 [.float 5, v1, v2, v3] [w0] h Q = ex_ X d 214 17 [.float 5, v1, v2, v3] [.float 5, w0] h Q := ex_nx (show mx_at 214 16 = some (.aload_n 0, 1) by decide +kernel) rfl
set_option maxRecDepth 20000 in
theorem i214_17 (ha : al_ h a = some b) : ex_ X d 214 17 [v0, v1, v2, v3] [.ref a, w0] h Q = ex_ X d 214 18 [v0, v1, v2, v3] [.int (Int32.ofNat b), w0] h Q := R_alen (show mx_at 214 17 = some (.arraylength, 1) by decide +kernel) ha
set_option maxRecDepth 20000 in
theorem i214_17f0 : ex_ X d 214 17 [v0, v1, v2, v3] [.float 4, w0] h Q = ex_ X d 214 18 [v0, v1, v2, v3] [.int 4, w0] h Q := ex_nx (show mx_at 214 17 = some (.arraylength, 1) by decide +kernel) rfl
set_option maxRecDepth 20000 in
theorem i214_17f1 : ex_ X d 214 17 [v0, v1, v2, v3] [.float 5, w0] h Q = ex_ X d 214 18 [v0, v1, v2, v3] [.int 4, w0] h Q := ex_nx (show mx_at 214 17 = some (.arraylength, 1) by decide +kernel) rfl
set_option maxRecDepth 20000 in
theorem i214_18 : ex_ X (d + 1) 214 18 [v0, v1, v2, v3] [.int y, .int x] h Q = ex_ X (d + 1) 214 21 [v0, v1, v2, v3] [.int (if y < x then y else x)] h Q := R_min (show mx_at 214 18 = some (.invokestatic 38, 3) by decide +kernel) (mx_clk ow214 cc16_38) (Nat.le_of_ble_eq_true rfl)
set_option maxRecDepth 20000 in
theorem i214_21 : ex_ X d 214 21 [v0, v1, v2, v3] [.int x] h Q = (mx_nl v2 = true ∧ ex_ X d 214 22 [v0, v1, v2, .int x] [] h Q) := mx_t1 (R_st (ok := mx_isI) (n := 3) (w := 1) (show mx_at 214 21 = some (.istore_n 3, 1) by decide +kernel) (fun _ _ => rfl) (Nat.le_of_ble_eq_true rfl)) rfl
set_option maxRecDepth 20000 in
theorem i214_22 : ex_ X d 214 22 [v0, v1, .int x, v3] [] h Q = ex_ X d 214 23 [v0, v1, .int x, v3] [.int x] h Q := ex_nx (show mx_at 214 22 = some (.iload_n 2, 1) by decide +kernel) rfl
set_option maxRecDepth 20000 in
theorem i214_23 : ex_ X d 214 23 [v0, v1, v2, .int x] [w0] h Q = ex_ X d 214 24 [v0, v1, v2, .int x] [.int x, w0] h Q := ex_nx (show mx_at 214 23 = some (.iload_n 3, 1) by decide +kernel) rfl
set_option maxRecDepth 20000 in
theorem i214_24 : ex_ X d 214 24 [v0, v1, v2, v3] [.int y, .int x] h Q = if x < y then ex_ X d 214 29 [v0, v1, v2, v3] [] h Q else ex_ X d 214 27 [v0, v1, v2, v3] [] h Q := (R_br (show mx_at 214 24 = some (.if_icmp .lt 5, 3) by decide +kernel) rfl rfl).trans mx_ite
set_option maxRecDepth 20000 in
theorem i214_27 : ex_ X d 214 27 [v0, v1, v2, v3] [] h Q = ex_ X d 214 28 [v0, v1, v2, v3] [.int (-1)] h Q := R_iconst (show mx_at 214 27 = some (.iconst (-1), 1) by decide +kernel) (by decide)
set_option maxRecDepth 20000 in
theorem i214_28 : ex_ X d 214 28 [v0, v1, v2, v3] [.int x] h Q = Q (some (.int x)) h := ex_ret (show mx_at 214 28 = some (.ireturn, 1) by decide +kernel) (mx_retI rt214)
set_option maxRecDepth 20000 in
theorem i214_29 : ex_ X d 214 29 [.ref a, v1, v2, v3] [] h Q = ex_ X d 214 30 [.ref a, v1, v2, v3] [.ref a] h Q := ex_nx (show mx_at 214 29 = some (.aload_n 0, 1) by decide +kernel) rfl
set_option maxRecDepth 20000 in
theorem i214_29f0 : ex_ X d 214 29 [.float 2, v1, v2, v3] [] h Q = ex_ X d 214 30 [.float 2, v1, v2, v3] [.float 2] h Q := ex_nx (show mx_at 214 29 = some (.aload_n 0, 1) by decide +kernel) rfl
set_option maxRecDepth 20000 in
theorem i214_29f1 : ex_ X d 214 29 [.float 3, v1, v2, v3] [] h Q = ex_ X d 214 30 [.float 3, v1, v2, v3] [.float 3] h Q := ex_nx (show mx_at 214 29 = some (.aload_n 0, 1) by decide +kernel) rfl
set_option maxRecDepth 20000 in
theorem i214_29f2 : ex_ X d 214 29 [.float 4, v1, v2, v3] [] h Q = ex_ X d 214 30 [.float 4, v1, v2, v3] [.float 4] h Q := ex_nx (show mx_at 214 29 = some (.aload_n 0, 1) by decide +kernel) rfl
set_option maxRecDepth 20000 in
theorem i214_29f3 : ex_ X d 214 29 [.float 5, v1, v2, v3] [] h Q = ex_ X d 214 30 [.float 5, v1, v2, v3] [.float 5] h Q := ex_nx (show mx_at 214 29 = some (.aload_n 0, 1) by decide +kernel) rfl
set_option maxRecDepth 20000 in
theorem i214_30 : ex_ X d 214 30 [v0, .int x, v2, v3] [w0] h Q = ex_ X d 214 31 [v0, .int x, v2, v3] [.int x, w0] h Q := ex_nx (show mx_at 214 30 = some (.iload_n 1, 1) by decide +kernel) rfl
set_option maxRecDepth 20000 in
theorem i214_31 : ex_ X d 214 31 [v0, v1, .int x, v3] [w0, w1] h Q = ex_ X d 214 32 [v0, v1, .int x, v3] [.int x, w0, w1] h Q := ex_nx (show mx_at 214 31 = some (.iload_n 2, 1) by decide +kernel) rfl
set_option maxRecDepth 20000 in
theorem i214_32 : ex_ X d 214 32 [v0, v1, v2, .int x] [w0, w1, w2] h Q = ex_ X d 214 33 [v0, v1, v2, .int x] [.int x, w0, w1, w2] h Q := ex_nx (show mx_at 214 32 = some (.iload_n 3, 1) by decide +kernel) rfl
set_option maxRecDepth 20000 in
theorem i214_33f0 : ex_ X (d + 1) 214 33 [v0, v1, v2, v3] [.int x3, .int x2, .int x1, .float 4] h Q = ev_ X d 216 [.float 4, .int x1, .int x2, .int x3] h (fun r h' => ex_ X (d + 1) 214 36 [v0, v1, v2, v3] (r.toList ++ []) h' Q) := R_stat (show mx_at 214 33 = some (.invokestatic 95, 3) by decide +kernel) (mx_clk ow214 cc16_95) (Nat.le_of_ble_eq_true rfl) rfl rfl (Nat.le_of_ble_eq_true rfl) ml216 (Nat.le_of_ble_eq_true rfl)
set_option maxRecDepth 20000 in
theorem i214_33f1 : ex_ X (d + 1) 214 33 [v0, v1, v2, v3] [.int x3, .int x2, .int x1, .float 5] h Q = ev_ X d 216 [.float 5, .int x1, .int x2, .int x3] h (fun r h' => ex_ X (d + 1) 214 36 [v0, v1, v2, v3] (r.toList ++ []) h' Q) := R_stat (show mx_at 214 33 = some (.invokestatic 95, 3) by decide +kernel) (mx_clk ow214 cc16_95) (Nat.le_of_ble_eq_true rfl) rfl rfl (Nat.le_of_ble_eq_true rfl) ml216 (Nat.le_of_ble_eq_true rfl)
set_option maxRecDepth 20000 in
theorem i214_36 : ex_ X d 214 36 [v0, v1, v2, v3] [.int x] h Q = Q (some (.int x)) h := ex_ret (show mx_at 214 36 = some (.ireturn, 1) by decide +kernel) (mx_retI rt214)
theorem i214_e : ev_ X d 214 [.float 4, .int x1, .int x2, .int x3] h Q = ex_ X d 214 0 [.float 4, .int x1, .int x2, .int x3] [] h Q := by rw [ev_, ml214]; rfl
theorem i214_e1 : ev_ X d 214 [.float 5, .int x1, .int x2, .int x3] h Q = ex_ X d 214 0 [.float 5, .int x1, .int x2, .int x3] [] h Q := by rw [ev_, ml214]; rfl
-- 215 J1_canEncode_9a6ad
set_option maxRecDepth 20000 in
theorem i215_0 : ex_ X d 215 0 [.int x] [] h Q = ex_ X d 215 1 [.int x] [.int x] h Q := ex_nx (show mx_at 215 0 = some (.iload_n 0, 1) by decide +kernel) rfl
set_option maxRecDepth 20000 in
theorem i215_1 : ex_ X d 215 1 [v0] [.int x] h Q = if x < 0 then ex_ X d 215 15 [v0] [] h Q else ex_ X d 215 4 [v0] [] h Q := (R_br (show mx_at 215 1 = some (.ifCond .lt 14, 3) by decide +kernel) rfl rfl).trans mx_ite
set_option maxRecDepth 20000 in
theorem i215_4 : ex_ X d 215 4 [.int x] [] h Q = ex_ X d 215 5 [.int x] [.int x] h Q := ex_nx (show mx_at 215 4 = some (.iload_n 0, 1) by decide +kernel) rfl
set_option maxRecDepth 20000 in
theorem i215_5 : ex_ X d 215 5 [v0] [w0] h Q = ex_ X d 215 8 [v0] [.int 255, w0] h Q := R_sipush (show mx_at 215 5 = some (.sipush 255, 3) by decide +kernel) (by decide)
set_option maxRecDepth 20000 in
theorem i215_8 : ex_ X d 215 8 [v0] [.int y, .int x] h Q = if y < x then ex_ X d 215 15 [v0] [] h Q else ex_ X d 215 11 [v0] [] h Q := (R_br (show mx_at 215 8 = some (.if_icmp .gt 7, 3) by decide +kernel) rfl rfl).trans mx_ite
set_option maxRecDepth 20000 in
theorem i215_11 : ex_ X d 215 11 [v0] [] h Q = ex_ X d 215 12 [v0] [.int 1] h Q := R_iconst (show mx_at 215 11 = some (.iconst 1, 1) by decide +kernel) (by decide)
set_option maxRecDepth 20000 in
theorem i215_12 : ex_ X d 215 12 [v0] [w0] h Q = ex_ X d 215 16 [v0] [w0] h Q := R_to (show mx_at 215 12 = some (.goto 4, 3) by decide +kernel) rfl rfl
set_option maxRecDepth 20000 in
theorem i215_15 : ex_ X d 215 15 [v0] [] h Q = ex_ X d 215 16 [v0] [.int 0] h Q := R_iconst (show mx_at 215 15 = some (.iconst 0, 1) by decide +kernel) (by decide)
set_option maxRecDepth 20000 in
theorem i215_16 (hx : x = 0 ∨ x = 1) : ex_ X d 215 16 [v0] [.int x] h Q = Q (some (.int x)) h := ex_ret (show mx_at 215 16 = some (.ireturn, 1) by decide +kernel) (mx_retZ hx rt215)
theorem i215_e : ev_ X d 215 [.int x0] h Q = ex_ X d 215 0 [.int x0] [] h Q := by rw [ev_, ml215]; rfl
-- 216 J1_indexOfChar_4cfef
set_option maxRecDepth 20000 in
theorem i216_0 : ex_ X d 216 0 [v0, .int x, v2, v3, v4, v5] [] h Q = ex_ X d 216 1 [v0, .int x, v2, v3, v4, v5] [.int x] h Q := ex_nx (show mx_at 216 0 = some (.iload_n 1, 1) by decide +kernel) rfl
set_option maxRecDepth 20000 in
theorem i216_1 : ex_ X d 216 1 [v0, v1, v2, v3, v4, v5] [.int x] h Q = ex_ X d 216 2 [v0, v1, v2, v3, v4, v5] [.int (x.toInt8.toInt32)] h Q := ex_nx (show mx_at 216 1 = some (.i2b, 1) by decide +kernel) rfl
set_option maxRecDepth 20000 in
theorem i216_2 : ex_ X d 216 2 [v0, v1, v2, v3, v4, v5] [.int x] h Q = (mx_nl v3 = true ∧ ex_ X d 216 4 [v0, v1, v2, v3, .int x, v5] [] h Q) := mx_t1 (R_st (ok := mx_isI) (n := 4) (w := 2) (show mx_at 216 2 = some (.istore 4, 2) by decide +kernel) (fun _ _ => rfl) (Nat.le_of_ble_eq_true rfl)) rfl
set_option maxRecDepth 20000 in
theorem i216_4 : ex_ X d 216 4 [v0, v1, .int x, v3, v4, v5] [] h Q = ex_ X d 216 5 [v0, v1, .int x, v3, v4, v5] [.int x] h Q := ex_nx (show mx_at 216 4 = some (.iload_n 2, 1) by decide +kernel) rfl
set_option maxRecDepth 20000 in
theorem i216_5 : ex_ X d 216 5 [v0, v1, v2, v3, v4, v5] [.int x] h Q = (mx_nl v4 = true ∧ ex_ X d 216 7 [v0, v1, v2, v3, v4, .int x] [] h Q) := mx_t1 (R_st (ok := mx_isI) (n := 5) (w := 2) (show mx_at 216 5 = some (.istore 5, 2) by decide +kernel) (fun _ _ => rfl) (Nat.le_of_ble_eq_true rfl)) rfl
set_option maxRecDepth 20000 in
theorem i216_7 : ex_ X d 216 7 [v0, v1, v2, v3, v4, .int x] [] h Q = ex_ X d 216 9 [v0, v1, v2, v3, v4, .int x] [.int x] h Q := ex_nx (show mx_at 216 7 = some (.iload 5, 2) by decide +kernel) rfl
set_option maxRecDepth 20000 in
theorem i216_9 : ex_ X d 216 9 [v0, v1, v2, .int x, v4, v5] [w0] h Q = ex_ X d 216 10 [v0, v1, v2, .int x, v4, v5] [.int x, w0] h Q := ex_nx (show mx_at 216 9 = some (.iload_n 3, 1) by decide +kernel) rfl
set_option maxRecDepth 20000 in
theorem i216_10 : ex_ X d 216 10 [v0, v1, v2, v3, v4, v5] [.int y, .int x] h Q = if y ≤ x then ex_ X d 216 31 [v0, v1, v2, v3, v4, v5] [] h Q else ex_ X d 216 13 [v0, v1, v2, v3, v4, v5] [] h Q := (R_br (show mx_at 216 10 = some (.if_icmp .ge 21, 3) by decide +kernel) rfl rfl).trans mx_ite
set_option maxRecDepth 20000 in
theorem i216_13 : ex_ X d 216 13 [.ref a, v1, v2, v3, v4, v5] [] h Q = ex_ X d 216 14 [.ref a, v1, v2, v3, v4, v5] [.ref a] h Q := ex_nx (show mx_at 216 13 = some (.aload_n 0, 1) by decide +kernel) rfl
set_option maxRecDepth 20000 in
theorem i216_13f0 : ex_ X d 216 13 [.float 2, v1, v2, v3, v4, v5] [] h Q = ex_ X d 216 14 [.float 2, v1, v2, v3, v4, v5] [.float 2] h Q := ex_nx (show mx_at 216 13 = some (.aload_n 0, 1) by decide +kernel) rfl
set_option maxRecDepth 20000 in
theorem i216_13f1 : ex_ X d 216 13 [.float 3, v1, v2, v3, v4, v5] [] h Q = ex_ X d 216 14 [.float 3, v1, v2, v3, v4, v5] [.float 3] h Q := ex_nx (show mx_at 216 13 = some (.aload_n 0, 1) by decide +kernel) rfl
set_option maxRecDepth 20000 in
theorem i216_13f2 : ex_ X d 216 13 [.float 4, v1, v2, v3, v4, v5] [] h Q = ex_ X d 216 14 [.float 4, v1, v2, v3, v4, v5] [.float 4] h Q := ex_nx (show mx_at 216 13 = some (.aload_n 0, 1) by decide +kernel) rfl
set_option maxRecDepth 20000 in
theorem i216_13f3 : ex_ X d 216 13 [.float 5, v1, v2, v3, v4, v5] [] h Q = ex_ X d 216 14 [.float 5, v1, v2, v3, v4, v5] [.float 5] h Q := ex_nx (show mx_at 216 13 = some (.aload_n 0, 1) by decide +kernel) rfl
set_option maxRecDepth 20000 in
theorem i216_14 : ex_ X d 216 14 [v0, v1, v2, v3, v4, .int x] [w0] h Q = ex_ X d 216 16 [v0, v1, v2, v3, v4, .int x] [.int x, w0] h Q := ex_nx (show mx_at 216 14 = some (.iload 5, 2) by decide +kernel) rfl
set_option maxRecDepth 20000 in
theorem i216_16f0 : ex_ X d 216 16 [v0, v1, v2, v3, v4, v5] [.int i, .float 4] h Q = (mx_in i 4 = true ∧ ex_ X d 216 17 [v0, v1, v2, v3, v4, v5] [.int (mx_by0 i.toNatClampNeg)] h Q) := R_baldx (show mx_at 216 16 = some (.baload, 1) by decide +kernel) rfl
set_option maxRecDepth 20000 in
theorem i216_16f1 : ex_ X d 216 16 [v0, v1, v2, v3, v4, v5] [.int i, .float 5] h Q = (mx_in i 4 = true ∧ ex_ X d 216 17 [v0, v1, v2, v3, v4, v5] [.int (mx_by1 i.toNatClampNeg)] h Q) := R_baldx (show mx_at 216 16 = some (.baload, 1) by decide +kernel) rfl
set_option maxRecDepth 20000 in
theorem i216_17 : ex_ X d 216 17 [v0, v1, v2, v3, .int x, v5] [w0] h Q = ex_ X d 216 19 [v0, v1, v2, v3, .int x, v5] [.int x, w0] h Q := ex_nx (show mx_at 216 17 = some (.iload 4, 2) by decide +kernel) rfl
set_option maxRecDepth 20000 in
theorem i216_19 : ex_ X d 216 19 [v0, v1, v2, v3, v4, v5] [.int y, .int x] h Q = if ¬ x = y then ex_ X d 216 25 [v0, v1, v2, v3, v4, v5] [] h Q else ex_ X d 216 22 [v0, v1, v2, v3, v4, v5] [] h Q := (R_br (show mx_at 216 19 = some (.if_icmp .ne 6, 3) by decide +kernel) rfl rfl).trans mx_ite
set_option maxRecDepth 20000 in
theorem i216_22 : ex_ X d 216 22 [v0, v1, v2, v3, v4, .int x] [] h Q = ex_ X d 216 24 [v0, v1, v2, v3, v4, .int x] [.int x] h Q := ex_nx (show mx_at 216 22 = some (.iload 5, 2) by decide +kernel) rfl
set_option maxRecDepth 20000 in
theorem i216_24 : ex_ X d 216 24 [v0, v1, v2, v3, v4, v5] [.int x] h Q = Q (some (.int x)) h := ex_ret (show mx_at 216 24 = some (.ireturn, 1) by decide +kernel) (mx_retI rt216)
set_option maxRecDepth 20000 in
theorem i216_25 : ex_ X d 216 25 [v0, v1, v2, v3, v4, .int x] [] h Q = (mx_nl v4 = true ∧ ex_ X d 216 28 [v0, v1, v2, v3, v4, .int (x + 1)] [] h Q) := R_iinc (n := 5) (c := 1) (show mx_at 216 25 = some (.iinc 5 1, 3) by decide +kernel) rfl
set_option maxRecDepth 20000 in
theorem i216_28 : ex_ X d 216 28 [v0, v1, v2, v3, v4, v5] [] h Q = ex_ X d 216 7 [v0, v1, v2, v3, v4, v5] [] h Q := R_to (show mx_at 216 28 = some (.goto (-21), 3) by decide +kernel) rfl rfl
set_option maxRecDepth 20000 in
theorem i216_31 : ex_ X d 216 31 [v0, v1, v2, v3, v4, v5] [] h Q = ex_ X d 216 32 [v0, v1, v2, v3, v4, v5] [.int (-1)] h Q := R_iconst (show mx_at 216 31 = some (.iconst (-1), 1) by decide +kernel) (by decide)
set_option maxRecDepth 20000 in
theorem i216_32 : ex_ X d 216 32 [v0, v1, v2, v3, v4, v5] [.int x] h Q = Q (some (.int x)) h := ex_ret (show mx_at 216 32 = some (.ireturn, 1) by decide +kernel) (mx_retI rt216)
theorem i216_e : ev_ X d 216 [.float 4, .int x1, .int x2, .int x3] h Q = ex_ X d 216 0 [.float 4, .int x1, .int x2, .int x3, .double 0, .double 0] [] h Q := by rw [ev_, ml216]; rfl
theorem i216_e1 : ev_ X d 216 [.float 5, .int x1, .int x2, .int x3] h Q = ex_ X d 216 0 [.float 5, .int x1, .int x2, .int x3, .double 0, .double 0] [] h Q := by rw [ev_, ml216]; rfl
-- 217 J7_fill_53178
set_option maxRecDepth 20000 in
theorem i217_0 : ex_ X d 217 0 [v0, v1, v2, v3] [] h Q = ex_ X d 217 1 [v0, v1, v2, v3] [.int 0] h Q := R_iconst (show mx_at 217 0 = some (.iconst 0, 1) by decide +kernel) (by decide)
set_option maxRecDepth 20000 in
theorem i217_1 : ex_ X d 217 1 [v0, v1, v2, v3] [.int x] h Q = (mx_nl v1 = true ∧ ex_ X d 217 2 [v0, v1, .int x, v3] [] h Q) := mx_t1 (R_st (ok := mx_isI) (n := 2) (w := 1) (show mx_at 217 1 = some (.istore_n 2, 1) by decide +kernel) (fun _ _ => rfl) (Nat.le_of_ble_eq_true rfl)) rfl
set_option maxRecDepth 20000 in
theorem i217_2 : ex_ X d 217 2 [.ref a, v1, v2, v3] [] h Q = ex_ X d 217 3 [.ref a, v1, v2, v3] [.ref a] h Q := ex_nx (show mx_at 217 2 = some (.aload_n 0, 1) by decide +kernel) rfl
set_option maxRecDepth 20000 in
theorem i217_2f0 : ex_ X d 217 2 [.float 2, v1, v2, v3] [] h Q = ex_ X d 217 3 [.float 2, v1, v2, v3] [.float 2] h Q := ex_nx (show mx_at 217 2 = some (.aload_n 0, 1) by decide +kernel) rfl
set_option maxRecDepth 20000 in
theorem i217_2f1 : ex_ X d 217 2 [.float 3, v1, v2, v3] [] h Q = ex_ X d 217 3 [.float 3, v1, v2, v3] [.float 3] h Q := ex_nx (show mx_at 217 2 = some (.aload_n 0, 1) by decide +kernel) rfl
set_option maxRecDepth 20000 in
theorem i217_2f2 : ex_ X d 217 2 [.float 4, v1, v2, v3] [] h Q = ex_ X d 217 3 [.float 4, v1, v2, v3] [.float 4] h Q := ex_nx (show mx_at 217 2 = some (.aload_n 0, 1) by decide +kernel) rfl
set_option maxRecDepth 20000 in
theorem i217_2f3 : ex_ X d 217 2 [.float 5, v1, v2, v3] [] h Q = ex_ X d 217 3 [.float 5, v1, v2, v3] [.float 5] h Q := ex_nx (show mx_at 217 2 = some (.aload_n 0, 1) by decide +kernel) rfl
set_option maxRecDepth 20000 in
theorem i217_3 (ha : al_ h a = some b) : ex_ X d 217 3 [v0, v1, v2, v3] [.ref a] h Q = ex_ X d 217 4 [v0, v1, v2, v3] [.int (Int32.ofNat b)] h Q := R_alen (show mx_at 217 3 = some (.arraylength, 1) by decide +kernel) ha
set_option maxRecDepth 20000 in
theorem i217_3f0 : ex_ X d 217 3 [v0, v1, v2, v3] [.float 4] h Q = ex_ X d 217 4 [v0, v1, v2, v3] [.int 4] h Q := ex_nx (show mx_at 217 3 = some (.arraylength, 1) by decide +kernel) rfl
set_option maxRecDepth 20000 in
theorem i217_3f1 : ex_ X d 217 3 [v0, v1, v2, v3] [.float 5] h Q = ex_ X d 217 4 [v0, v1, v2, v3] [.int 4] h Q := ex_nx (show mx_at 217 3 = some (.arraylength, 1) by decide +kernel) rfl
set_option maxRecDepth 20000 in
theorem i217_4 : ex_ X d 217 4 [v0, v1, v2, v3] [.int x] h Q = (mx_nl v2 = true ∧ ex_ X d 217 5 [v0, v1, v2, .int x] [] h Q) := mx_t1 (R_st (ok := mx_isI) (n := 3) (w := 1) (show mx_at 217 4 = some (.istore_n 3, 1) by decide +kernel) (fun _ _ => rfl) (Nat.le_of_ble_eq_true rfl)) rfl
set_option maxRecDepth 20000 in
theorem i217_5 : ex_ X d 217 5 [v0, v1, .int x, v3] [] h Q = ex_ X d 217 6 [v0, v1, .int x, v3] [.int x] h Q := ex_nx (show mx_at 217 5 = some (.iload_n 2, 1) by decide +kernel) rfl
set_option maxRecDepth 20000 in
theorem i217_6 : ex_ X d 217 6 [v0, v1, v2, .int x] [w0] h Q = ex_ X d 217 7 [v0, v1, v2, .int x] [.int x, w0] h Q := ex_nx (show mx_at 217 6 = some (.iload_n 3, 1) by decide +kernel) rfl
set_option maxRecDepth 20000 in
theorem i217_7 : ex_ X d 217 7 [v0, v1, v2, v3] [.int y, .int x] h Q = if y ≤ x then ex_ X d 217 20 [v0, v1, v2, v3] [] h Q else ex_ X d 217 10 [v0, v1, v2, v3] [] h Q := (R_br (show mx_at 217 7 = some (.if_icmp .ge 13, 3) by decide +kernel) rfl rfl).trans mx_ite
set_option maxRecDepth 20000 in
theorem i217_10 : ex_ X d 217 10 [.ref a, v1, v2, v3] [] h Q = ex_ X d 217 11 [.ref a, v1, v2, v3] [.ref a] h Q := ex_nx (show mx_at 217 10 = some (.aload_n 0, 1) by decide +kernel) rfl
set_option maxRecDepth 20000 in
theorem i217_10f0 : ex_ X d 217 10 [.float 2, v1, v2, v3] [] h Q = ex_ X d 217 11 [.float 2, v1, v2, v3] [.float 2] h Q := ex_nx (show mx_at 217 10 = some (.aload_n 0, 1) by decide +kernel) rfl
set_option maxRecDepth 20000 in
theorem i217_10f1 : ex_ X d 217 10 [.float 3, v1, v2, v3] [] h Q = ex_ X d 217 11 [.float 3, v1, v2, v3] [.float 3] h Q := ex_nx (show mx_at 217 10 = some (.aload_n 0, 1) by decide +kernel) rfl
set_option maxRecDepth 20000 in
theorem i217_10f2 : ex_ X d 217 10 [.float 4, v1, v2, v3] [] h Q = ex_ X d 217 11 [.float 4, v1, v2, v3] [.float 4] h Q := ex_nx (show mx_at 217 10 = some (.aload_n 0, 1) by decide +kernel) rfl
set_option maxRecDepth 20000 in
theorem i217_10f3 : ex_ X d 217 10 [.float 5, v1, v2, v3] [] h Q = ex_ X d 217 11 [.float 5, v1, v2, v3] [.float 5] h Q := ex_nx (show mx_at 217 10 = some (.aload_n 0, 1) by decide +kernel) rfl
set_option maxRecDepth 20000 in
theorem i217_11 : ex_ X d 217 11 [v0, v1, .int x, v3] [w0] h Q = ex_ X d 217 12 [v0, v1, .int x, v3] [.int x, w0] h Q := ex_nx (show mx_at 217 11 = some (.iload_n 2, 1) by decide +kernel) rfl
set_option maxRecDepth 20000 in
theorem i217_12 : ex_ X d 217 12 [v0, .int x, v2, v3] [w0, w1] h Q = ex_ X d 217 13 [v0, .int x, v2, v3] [.int x, w0, w1] h Q := ex_nx (show mx_at 217 12 = some (.iload_n 1, 1) by decide +kernel) rfl
set_option maxRecDepth 20000 in
theorem i217_13 : ex_ X d 217 13 [v0, v1, v2, v3] [.int x, .int i, .ref a] h Q = (ik_ h a i = true ∧ ex_ X d 217 14 [v0, v1, v2, v3] [] (is_ h a i x) Q) := R_iast (show mx_at 217 13 = some (.iastore, 1) by decide +kernel)
set_option maxRecDepth 20000 in
theorem i217_14 : ex_ X d 217 14 [v0, v1, .int x, v3] [] h Q = (mx_nl v1 = true ∧ ex_ X d 217 17 [v0, v1, .int (x + 1), v3] [] h Q) := R_iinc (n := 2) (c := 1) (show mx_at 217 14 = some (.iinc 2 1, 3) by decide +kernel) rfl
set_option maxRecDepth 20000 in
theorem i217_17 : ex_ X d 217 17 [v0, v1, v2, v3] [] h Q = ex_ X d 217 5 [v0, v1, v2, v3] [] h Q := R_to (show mx_at 217 17 = some (.goto (-12), 3) by decide +kernel) rfl rfl
set_option maxRecDepth 20000 in
theorem i217_20 : ex_ X d 217 20 [v0, v1, v2, v3] [] h Q = Q none h := ex_ret (show mx_at 217 20 = some (.return_, 1) by decide +kernel) (mx_retV rt217)
theorem i217_e : ev_ X d 217 [.ref a0, .int x1] h Q = ex_ X d 217 0 [.ref a0, .int x1, .double 0, .double 0] [] h Q := by rw [ev_, ml217]; rfl
end MXI
