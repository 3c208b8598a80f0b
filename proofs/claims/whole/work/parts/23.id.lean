section MXI
variable {X : MXX} {d : Nat} {h : MXH} {Q : MXP} {v0 v1 v2 v3 v4 v5 v6 v7 v8 v9 v10 v11 v12 v13 v14 v15 v16 v17 v18 v19 w w0 w1 w2 w3 w4 w5 w6 w7 w8 : Value} {x y z i x0 x1 x2 x3 x4 x5 x6 : Int32} {j0 j1 j2 j3 jx jy : Int64} {a b a0 a1 a2 a3 a4 a5 a6 : Nat}

-- 218 L_law
set_option maxRecDepth 20000 in
theorem i218_0 : ex_ X d 218 0 [v0, v1, v2, v3] [] h Q = ex_ X d 218 3 [v0, v1, v2, v3] [.ref h.length] (h ++ [.inr (11, [.null, .null, .null, .int 0, .null, .null, .null, .int 0, .int 0, .null, .null, .null, .null, .null, .null, .null, .int 0])]) Q := R_new (show mx_at 218 0 = some (.new 7, 3) by decide +kernel) (mx_lko ow218 cl210007) rfl
set_option maxRecDepth 20000 in
theorem i218_3 : ex_ X d 218 3 [v0, v1, v2, v3] [.ref a] h Q = ex_ X d 218 4 [v0, v1, v2, v3] [.ref a, .ref a] h Q := ex_nx (show mx_at 218 3 = some (.dup, 1) by decide +kernel) rfl
set_option maxRecDepth 20000 in
theorem i218_4 : ex_ X (d + 1) 218 4 [v0, v1, v2, v3] [.ref a, w0] h Q = ev_ X d 69 [.ref a] h (fun r h' => ex_ X (d + 1) 218 7 [v0, v1, v2, v3] (r.toList ++ [w0]) h' Q) := R_ctor (show mx_at 218 4 = some (.invokespecial 9, 3) by decide +kernel) (mx_clk ow218 cc21_9) (by decide) (Nat.le_of_ble_eq_true rfl) rfl rfl (Nat.le_of_ble_eq_true rfl) ml69 (Nat.le_of_ble_eq_true rfl)
set_option maxRecDepth 20000 in
theorem i218_7 : ex_ X d 218 7 [v0, v1, v2, v3] [.ref a] h Q = (mx_nl v0 = true ∧ ex_ X d 218 8 [v0, .ref a, v2, v3] [] h Q) := mx_t1 (R_st (ok := mx_isA) (n := 1) (w := 1) (show mx_at 218 7 = some (.astore_n 1, 1) by decide +kernel) (fun _ _ => rfl) (Nat.le_of_ble_eq_true rfl)) rfl
set_option maxRecDepth 20000 in
theorem i218_8 : ex_ X d 218 8 [v0, v1, v2, v3] [] h Q = ex_ X d 218 11 [v0, v1, v2, v3] [.ref h.length] (h ++ [.inr (12, [.null, .null, .null, .int 0, .null, .int 0, .int 0, .int 0, .int 0, .int 0, .int 0, .null, .null, .int 0, .null, .null, .null, .null, .int 0, .int 0, .null, .null, .null, .null])]) Q := R_new (show mx_at 218 8 = some (.new 10, 3) by decide +kernel) (mx_lko ow218 cl210010) rfl
set_option maxRecDepth 20000 in
theorem i218_11 : ex_ X d 218 11 [v0, v1, v2, v3] [.ref a] h Q = ex_ X d 218 12 [v0, v1, v2, v3] [.ref a, .ref a] h Q := ex_nx (show mx_at 218 11 = some (.dup, 1) by decide +kernel) rfl
set_option maxRecDepth 20000 in
theorem i218_12 : ex_ X (d + 1) 218 12 [v0, v1, v2, v3] [.ref a, w0] h Q = ev_ X d 122 [.ref a] h (fun r h' => ex_ X (d + 1) 218 15 [v0, v1, v2, v3] (r.toList ++ [w0]) h' Q) := R_ctor (show mx_at 218 12 = some (.invokespecial 12, 3) by decide +kernel) (mx_clk ow218 cc21_12) (by decide) (Nat.le_of_ble_eq_true rfl) rfl rfl (Nat.le_of_ble_eq_true rfl) ml122 (Nat.le_of_ble_eq_true rfl)
set_option maxRecDepth 20000 in
theorem i218_15 : ex_ X d 218 15 [v0, v1, v2, v3] [.ref a] h Q = (mx_nl v1 = true ∧ ex_ X d 218 16 [v0, v1, .ref a, v3] [] h Q) := mx_t1 (R_st (ok := mx_isA) (n := 2) (w := 1) (show mx_at 218 15 = some (.astore_n 2, 1) by decide +kernel) (fun _ _ => rfl) (Nat.le_of_ble_eq_true rfl)) rfl
set_option maxRecDepth 20000 in
theorem i218_16 : ex_ X d 218 16 [v0, v1, v2, v3] [] h Q = ex_ X d 218 17 [v0, v1, v2, v3] [.int 0] h Q := R_iconst (show mx_at 218 16 = some (.iconst 0, 1) by decide +kernel) (by decide)
set_option maxRecDepth 20000 in
theorem i218_17 : ex_ X d 218 17 [v0, v1, v2, v3] [.int x] h Q = (mx_nl v2 = true ∧ ex_ X d 218 18 [v0, v1, v2, .int x] [] h Q) := mx_t1 (R_st (ok := mx_isI) (n := 3) (w := 1) (show mx_at 218 17 = some (.istore_n 3, 1) by decide +kernel) (fun _ _ => rfl) (Nat.le_of_ble_eq_true rfl)) rfl
set_option maxRecDepth 20000 in
theorem i218_18 : ex_ X d 218 18 [v0, v1, v2, .int x] [] h Q = ex_ X d 218 19 [v0, v1, v2, .int x] [.int x] h Q := ex_nx (show mx_at 218 18 = some (.iload_n 3, 1) by decide +kernel) rfl
set_option maxRecDepth 20000 in
theorem i218_19 : ex_ X d 218 19 [.ref a, v1, v2, v3] [w0] h Q = ex_ X d 218 20 [.ref a, v1, v2, v3] [.ref a, w0] h Q := ex_nx (show mx_at 218 19 = some (.aload_n 0, 1) by decide +kernel) rfl
set_option maxRecDepth 20000 in
theorem i218_19f0 : ex_ X d 218 19 [.float 1, v1, v2, v3] [w0] h Q = ex_ X d 218 20 [.float 1, v1, v2, v3] [.float 1, w0] h Q := ex_nx (show mx_at 218 19 = some (.aload_n 0, 1) by decide +kernel) rfl
set_option maxRecDepth 20000 in
theorem i218_20 (ha : al_ h a = some b) : ex_ X d 218 20 [v0, v1, v2, v3] [.ref a, w0] h Q = ex_ X d 218 21 [v0, v1, v2, v3] [.int (Int32.ofNat b), w0] h Q := R_alen (show mx_at 218 20 = some (.arraylength, 1) by decide +kernel) ha
set_option maxRecDepth 20000 in
theorem i218_20f : ex_ X d 218 20 [v0, v1, v2, v3] [.float 1, w0] h Q = ex_ X d 218 21 [v0, v1, v2, v3] [.int (Int32.ofNat X.1), w0] h Q := R_alenx (f := X.2) (show mx_at 218 20 = some (.arraylength, 1) by decide +kernel) rfl
set_option maxRecDepth 20000 in
theorem i218_21 : ex_ X d 218 21 [v0, v1, v2, v3] [w0, w1] h Q = ex_ X d 218 23 [v0, v1, v2, v3] [.int 6, w0, w1] h Q := R_bipush (show mx_at 218 21 = some (.bipush 6, 2) by decide +kernel) (by decide)
set_option maxRecDepth 20000 in
theorem i218_23 : ex_ X d 218 23 [v0, v1, v2, v3] [.int y, .int x, w0] h Q = ex_ X d 218 24 [v0, v1, v2, v3] [.int (x - y), w0] h Q := ex_nx (show mx_at 218 23 = some (.isub, 1) by decide +kernel) rfl
set_option maxRecDepth 20000 in
theorem i218_24 : ex_ X d 218 24 [v0, v1, v2, v3] [.int y, .int x] h Q = if y < x then ex_ X d 218 1386 [v0, v1, v2, v3] [] h Q else ex_ X d 218 27 [v0, v1, v2, v3] [] h Q := (R_br (show mx_at 218 24 = some (.if_icmp .gt 1362, 3) by decide +kernel) rfl rfl).trans mx_ite
set_option maxRecDepth 20000 in
theorem i218_27 : ex_ X d 218 27 [.ref a, v1, v2, v3] [] h Q = ex_ X d 218 28 [.ref a, v1, v2, v3] [.ref a] h Q := ex_nx (show mx_at 218 27 = some (.aload_n 0, 1) by decide +kernel) rfl
set_option maxRecDepth 20000 in
theorem i218_27f0 : ex_ X d 218 27 [.float 1, v1, v2, v3] [] h Q = ex_ X d 218 28 [.float 1, v1, v2, v3] [.float 1] h Q := ex_nx (show mx_at 218 27 = some (.aload_n 0, 1) by decide +kernel) rfl
set_option maxRecDepth 20000 in
theorem i218_28 : ex_ X d 218 28 [v0, v1, v2, .int x] [w0] h Q = ex_ X d 218 29 [v0, v1, v2, .int x] [.int x, w0] h Q := ex_nx (show mx_at 218 28 = some (.iload_n 3, 1) by decide +kernel) rfl
set_option maxRecDepth 20000 in
theorem i218_29 : ex_ X d 218 29 [v0, v1, v2, v3] [.int i, .ref a] h Q = (ik_ h a i = true ∧ ex_ X d 218 30 [v0, v1, v2, v3] [.int (ia_ h a i)] h Q) := R_iald (show mx_at 218 29 = some (.iaload, 1) by decide +kernel)
set_option maxRecDepth 20000 in
theorem i218_29f : ex_ X d 218 29 [v0, v1, v2, v3] [.int i, .float 1] h Q = (mx_in i X.1 = true ∧ ex_ X d 218 30 [v0, v1, v2, v3] [.int (X.2 i.toNatClampNeg)] h Q) := R_ialdx (show mx_at 218 29 = some (.iaload, 1) by decide +kernel) rfl
set_option maxRecDepth 20000 in
theorem i218_30 : ex_ X d 218 30 [v0, v1, v2, v3] [w0] h Q = ex_ X d 218 32 [v0, v1, v2, v3] [.int 63, w0] h Q := R_bipush (show mx_at 218 30 = some (.bipush 63, 2) by decide +kernel) (by decide)
set_option maxRecDepth 20000 in
theorem i218_32 : ex_ X d 218 32 [v0, v1, v2, v3] [.int y, .int x] h Q = ex_ X d 218 33 [v0, v1, v2, v3] [.int (x &&& y)] h Q := ex_nx (show mx_at 218 32 = some (.iand, 1) by decide +kernel) rfl
set_option maxRecDepth 20000 in
theorem i218_33_0 : ex_ X d 218 33 [v0, v1, v2, v3] [.int 0] h Q = ex_ X d 218 192 [v0, v1, v2, v3] [] h Q := R_tsw (off := 159) (show mx_at 218 33 = some (.tableswitch 1347 0 35 #[159, 202, 235, 278, 311, 344, 387, 420, 443, 476, 539, 562, 625, 648, 671, 714, 747, 770, 793, 826, 859, 892, 915, 968, 991, 1014, 1057, 1080, 1123, 1166, 1229, 1242, 1255, 1278, 1301, 1324], 159) by decide +kernel) (by decide) rfl
set_option maxRecDepth 20000 in
theorem i218_33_1 : ex_ X d 218 33 [v0, v1, v2, v3] [.int 1] h Q = ex_ X d 218 235 [v0, v1, v2, v3] [] h Q := R_tsw (off := 202) (show mx_at 218 33 = some (.tableswitch 1347 0 35 #[159, 202, 235, 278, 311, 344, 387, 420, 443, 476, 539, 562, 625, 648, 671, 714, 747, 770, 793, 826, 859, 892, 915, 968, 991, 1014, 1057, 1080, 1123, 1166, 1229, 1242, 1255, 1278, 1301, 1324], 159) by decide +kernel) (by decide) rfl
set_option maxRecDepth 20000 in
theorem i218_33_2 : ex_ X d 218 33 [v0, v1, v2, v3] [.int 2] h Q = ex_ X d 218 268 [v0, v1, v2, v3] [] h Q := R_tsw (off := 235) (show mx_at 218 33 = some (.tableswitch 1347 0 35 #[159, 202, 235, 278, 311, 344, 387, 420, 443, 476, 539, 562, 625, 648, 671, 714, 747, 770, 793, 826, 859, 892, 915, 968, 991, 1014, 1057, 1080, 1123, 1166, 1229, 1242, 1255, 1278, 1301, 1324], 159) by decide +kernel) (by decide) rfl
set_option maxRecDepth 20000 in
theorem i218_33_3 : ex_ X d 218 33 [v0, v1, v2, v3] [.int 3] h Q = ex_ X d 218 311 [v0, v1, v2, v3] [] h Q := R_tsw (off := 278) (show mx_at 218 33 = some (.tableswitch 1347 0 35 #[159, 202, 235, 278, 311, 344, 387, 420, 443, 476, 539, 562, 625, 648, 671, 714, 747, 770, 793, 826, 859, 892, 915, 968, 991, 1014, 1057, 1080, 1123, 1166, 1229, 1242, 1255, 1278, 1301, 1324], 159) by decide +kernel) (by decide) rfl
set_option maxRecDepth 20000 in
theorem i218_33_4 : ex_ X d 218 33 [v0, v1, v2, v3] [.int 4] h Q = ex_ X d 218 344 [v0, v1, v2, v3] [] h Q := R_tsw (off := 311) (show mx_at 218 33 = some (.tableswitch 1347 0 35 #[159, 202, 235, 278, 311, 344, 387, 420, 443, 476, 539, 562, 625, 648, 671, 714, 747, 770, 793, 826, 859, 892, 915, 968, 991, 1014, 1057, 1080, 1123, 1166, 1229, 1242, 1255, 1278, 1301, 1324], 159) by decide +kernel) (by decide) rfl
set_option maxRecDepth 20000 in
theorem i218_33_5 : ex_ X d 218 33 [v0, v1, v2, v3] [.int 5] h Q = ex_ X d 218 377 [v0, v1, v2, v3] [] h Q := R_tsw (off := 344) (show mx_at 218 33 = some (.tableswitch 1347 0 35 #[159, 202, 235, 278, 311, 344, 387, 420, 443, 476, 539, 562, 625, 648, 671, 714, 747, 770, 793, 826, 859, 892, 915, 968, 991, 1014, 1057, 1080, 1123, 1166, 1229, 1242, 1255, 1278, 1301, 1324], 159) by decide +kernel) (by decide) rfl
set_option maxRecDepth 20000 in
theorem i218_33_6 : ex_ X d 218 33 [v0, v1, v2, v3] [.int 6] h Q = ex_ X d 218 420 [v0, v1, v2, v3] [] h Q := R_tsw (off := 387) (show mx_at 218 33 = some (.tableswitch 1347 0 35 #[159, 202, 235, 278, 311, 344, 387, 420, 443, 476, 539, 562, 625, 648, 671, 714, 747, 770, 793, 826, 859, 892, 915, 968, 991, 1014, 1057, 1080, 1123, 1166, 1229, 1242, 1255, 1278, 1301, 1324], 159) by decide +kernel) (by decide) rfl
set_option maxRecDepth 20000 in
theorem i218_33_7 : ex_ X d 218 33 [v0, v1, v2, v3] [.int 7] h Q = ex_ X d 218 453 [v0, v1, v2, v3] [] h Q := R_tsw (off := 420) (show mx_at 218 33 = some (.tableswitch 1347 0 35 #[159, 202, 235, 278, 311, 344, 387, 420, 443, 476, 539, 562, 625, 648, 671, 714, 747, 770, 793, 826, 859, 892, 915, 968, 991, 1014, 1057, 1080, 1123, 1166, 1229, 1242, 1255, 1278, 1301, 1324], 159) by decide +kernel) (by decide) rfl
set_option maxRecDepth 20000 in
theorem i218_33_8 : ex_ X d 218 33 [v0, v1, v2, v3] [.int 8] h Q = ex_ X d 218 476 [v0, v1, v2, v3] [] h Q := R_tsw (off := 443) (show mx_at 218 33 = some (.tableswitch 1347 0 35 #[159, 202, 235, 278, 311, 344, 387, 420, 443, 476, 539, 562, 625, 648, 671, 714, 747, 770, 793, 826, 859, 892, 915, 968, 991, 1014, 1057, 1080, 1123, 1166, 1229, 1242, 1255, 1278, 1301, 1324], 159) by decide +kernel) (by decide) rfl
set_option maxRecDepth 20000 in
theorem i218_33_9 : ex_ X d 218 33 [v0, v1, v2, v3] [.int 9] h Q = ex_ X d 218 509 [v0, v1, v2, v3] [] h Q := R_tsw (off := 476) (show mx_at 218 33 = some (.tableswitch 1347 0 35 #[159, 202, 235, 278, 311, 344, 387, 420, 443, 476, 539, 562, 625, 648, 671, 714, 747, 770, 793, 826, 859, 892, 915, 968, 991, 1014, 1057, 1080, 1123, 1166, 1229, 1242, 1255, 1278, 1301, 1324], 159) by decide +kernel) (by decide) rfl
set_option maxRecDepth 20000 in
theorem i218_33_10 : ex_ X d 218 33 [v0, v1, v2, v3] [.int 10] h Q = ex_ X d 218 572 [v0, v1, v2, v3] [] h Q := R_tsw (off := 539) (show mx_at 218 33 = some (.tableswitch 1347 0 35 #[159, 202, 235, 278, 311, 344, 387, 420, 443, 476, 539, 562, 625, 648, 671, 714, 747, 770, 793, 826, 859, 892, 915, 968, 991, 1014, 1057, 1080, 1123, 1166, 1229, 1242, 1255, 1278, 1301, 1324], 159) by decide +kernel) (by decide) rfl
set_option maxRecDepth 20000 in
theorem i218_33_11 : ex_ X d 218 33 [v0, v1, v2, v3] [.int 11] h Q = ex_ X d 218 595 [v0, v1, v2, v3] [] h Q := R_tsw (off := 562) (show mx_at 218 33 = some (.tableswitch 1347 0 35 #[159, 202, 235, 278, 311, 344, 387, 420, 443, 476, 539, 562, 625, 648, 671, 714, 747, 770, 793, 826, 859, 892, 915, 968, 991, 1014, 1057, 1080, 1123, 1166, 1229, 1242, 1255, 1278, 1301, 1324], 159) by decide +kernel) (by decide) rfl
set_option maxRecDepth 20000 in
theorem i218_33_12 : ex_ X d 218 33 [v0, v1, v2, v3] [.int 12] h Q = ex_ X d 218 658 [v0, v1, v2, v3] [] h Q := R_tsw (off := 625) (show mx_at 218 33 = some (.tableswitch 1347 0 35 #[159, 202, 235, 278, 311, 344, 387, 420, 443, 476, 539, 562, 625, 648, 671, 714, 747, 770, 793, 826, 859, 892, 915, 968, 991, 1014, 1057, 1080, 1123, 1166, 1229, 1242, 1255, 1278, 1301, 1324], 159) by decide +kernel) (by decide) rfl
set_option maxRecDepth 20000 in
theorem i218_33_13 : ex_ X d 218 33 [v0, v1, v2, v3] [.int 13] h Q = ex_ X d 218 681 [v0, v1, v2, v3] [] h Q := R_tsw (off := 648) (show mx_at 218 33 = some (.tableswitch 1347 0 35 #[159, 202, 235, 278, 311, 344, 387, 420, 443, 476, 539, 562, 625, 648, 671, 714, 747, 770, 793, 826, 859, 892, 915, 968, 991, 1014, 1057, 1080, 1123, 1166, 1229, 1242, 1255, 1278, 1301, 1324], 159) by decide +kernel) (by decide) rfl
set_option maxRecDepth 20000 in
theorem i218_33_14 : ex_ X d 218 33 [v0, v1, v2, v3] [.int 14] h Q = ex_ X d 218 704 [v0, v1, v2, v3] [] h Q := R_tsw (off := 671) (show mx_at 218 33 = some (.tableswitch 1347 0 35 #[159, 202, 235, 278, 311, 344, 387, 420, 443, 476, 539, 562, 625, 648, 671, 714, 747, 770, 793, 826, 859, 892, 915, 968, 991, 1014, 1057, 1080, 1123, 1166, 1229, 1242, 1255, 1278, 1301, 1324], 159) by decide +kernel) (by decide) rfl
set_option maxRecDepth 20000 in
theorem i218_33_15 : ex_ X d 218 33 [v0, v1, v2, v3] [.int 15] h Q = ex_ X d 218 747 [v0, v1, v2, v3] [] h Q := R_tsw (off := 714) (show mx_at 218 33 = some (.tableswitch 1347 0 35 #[159, 202, 235, 278, 311, 344, 387, 420, 443, 476, 539, 562, 625, 648, 671, 714, 747, 770, 793, 826, 859, 892, 915, 968, 991, 1014, 1057, 1080, 1123, 1166, 1229, 1242, 1255, 1278, 1301, 1324], 159) by decide +kernel) (by decide) rfl
set_option maxRecDepth 20000 in
theorem i218_33_16 : ex_ X d 218 33 [v0, v1, v2, v3] [.int 16] h Q = ex_ X d 218 780 [v0, v1, v2, v3] [] h Q := R_tsw (off := 747) (show mx_at 218 33 = some (.tableswitch 1347 0 35 #[159, 202, 235, 278, 311, 344, 387, 420, 443, 476, 539, 562, 625, 648, 671, 714, 747, 770, 793, 826, 859, 892, 915, 968, 991, 1014, 1057, 1080, 1123, 1166, 1229, 1242, 1255, 1278, 1301, 1324], 159) by decide +kernel) (by decide) rfl
set_option maxRecDepth 20000 in
theorem i218_33_17 : ex_ X d 218 33 [v0, v1, v2, v3] [.int 17] h Q = ex_ X d 218 803 [v0, v1, v2, v3] [] h Q := R_tsw (off := 770) (show mx_at 218 33 = some (.tableswitch 1347 0 35 #[159, 202, 235, 278, 311, 344, 387, 420, 443, 476, 539, 562, 625, 648, 671, 714, 747, 770, 793, 826, 859, 892, 915, 968, 991, 1014, 1057, 1080, 1123, 1166, 1229, 1242, 1255, 1278, 1301, 1324], 159) by decide +kernel) (by decide) rfl
set_option maxRecDepth 20000 in
theorem i218_33_18 : ex_ X d 218 33 [v0, v1, v2, v3] [.int 18] h Q = ex_ X d 218 826 [v0, v1, v2, v3] [] h Q := R_tsw (off := 793) (show mx_at 218 33 = some (.tableswitch 1347 0 35 #[159, 202, 235, 278, 311, 344, 387, 420, 443, 476, 539, 562, 625, 648, 671, 714, 747, 770, 793, 826, 859, 892, 915, 968, 991, 1014, 1057, 1080, 1123, 1166, 1229, 1242, 1255, 1278, 1301, 1324], 159) by decide +kernel) (by decide) rfl
set_option maxRecDepth 20000 in
theorem i218_33_19 : ex_ X d 218 33 [v0, v1, v2, v3] [.int 19] h Q = ex_ X d 218 859 [v0, v1, v2, v3] [] h Q := R_tsw (off := 826) (show mx_at 218 33 = some (.tableswitch 1347 0 35 #[159, 202, 235, 278, 311, 344, 387, 420, 443, 476, 539, 562, 625, 648, 671, 714, 747, 770, 793, 826, 859, 892, 915, 968, 991, 1014, 1057, 1080, 1123, 1166, 1229, 1242, 1255, 1278, 1301, 1324], 159) by decide +kernel) (by decide) rfl
set_option maxRecDepth 20000 in
theorem i218_33_20 : ex_ X d 218 33 [v0, v1, v2, v3] [.int 20] h Q = ex_ X d 218 892 [v0, v1, v2, v3] [] h Q := R_tsw (off := 859) (show mx_at 218 33 = some (.tableswitch 1347 0 35 #[159, 202, 235, 278, 311, 344, 387, 420, 443, 476, 539, 562, 625, 648, 671, 714, 747, 770, 793, 826, 859, 892, 915, 968, 991, 1014, 1057, 1080, 1123, 1166, 1229, 1242, 1255, 1278, 1301, 1324], 159) by decide +kernel) (by decide) rfl
set_option maxRecDepth 20000 in
theorem i218_33_21 : ex_ X d 218 33 [v0, v1, v2, v3] [.int 21] h Q = ex_ X d 218 925 [v0, v1, v2, v3] [] h Q := R_tsw (off := 892) (show mx_at 218 33 = some (.tableswitch 1347 0 35 #[159, 202, 235, 278, 311, 344, 387, 420, 443, 476, 539, 562, 625, 648, 671, 714, 747, 770, 793, 826, 859, 892, 915, 968, 991, 1014, 1057, 1080, 1123, 1166, 1229, 1242, 1255, 1278, 1301, 1324], 159) by decide +kernel) (by decide) rfl
set_option maxRecDepth 20000 in
theorem i218_33_22 : ex_ X d 218 33 [v0, v1, v2, v3] [.int 22] h Q = ex_ X d 218 948 [v0, v1, v2, v3] [] h Q := R_tsw (off := 915) (show mx_at 218 33 = some (.tableswitch 1347 0 35 #[159, 202, 235, 278, 311, 344, 387, 420, 443, 476, 539, 562, 625, 648, 671, 714, 747, 770, 793, 826, 859, 892, 915, 968, 991, 1014, 1057, 1080, 1123, 1166, 1229, 1242, 1255, 1278, 1301, 1324], 159) by decide +kernel) (by decide) rfl
set_option maxRecDepth 20000 in
theorem i218_33_23 : ex_ X d 218 33 [v0, v1, v2, v3] [.int 23] h Q = ex_ X d 218 1001 [v0, v1, v2, v3] [] h Q := R_tsw (off := 968) (show mx_at 218 33 = some (.tableswitch 1347 0 35 #[159, 202, 235, 278, 311, 344, 387, 420, 443, 476, 539, 562, 625, 648, 671, 714, 747, 770, 793, 826, 859, 892, 915, 968, 991, 1014, 1057, 1080, 1123, 1166, 1229, 1242, 1255, 1278, 1301, 1324], 159) by decide +kernel) (by decide) rfl
set_option maxRecDepth 20000 in
theorem i218_33_24 : ex_ X d 218 33 [v0, v1, v2, v3] [.int 24] h Q = ex_ X d 218 1024 [v0, v1, v2, v3] [] h Q := R_tsw (off := 991) (show mx_at 218 33 = some (.tableswitch 1347 0 35 #[159, 202, 235, 278, 311, 344, 387, 420, 443, 476, 539, 562, 625, 648, 671, 714, 747, 770, 793, 826, 859, 892, 915, 968, 991, 1014, 1057, 1080, 1123, 1166, 1229, 1242, 1255, 1278, 1301, 1324], 159) by decide +kernel) (by decide) rfl
set_option maxRecDepth 20000 in
theorem i218_33_25 : ex_ X d 218 33 [v0, v1, v2, v3] [.int 25] h Q = ex_ X d 218 1047 [v0, v1, v2, v3] [] h Q := R_tsw (off := 1014) (show mx_at 218 33 = some (.tableswitch 1347 0 35 #[159, 202, 235, 278, 311, 344, 387, 420, 443, 476, 539, 562, 625, 648, 671, 714, 747, 770, 793, 826, 859, 892, 915, 968, 991, 1014, 1057, 1080, 1123, 1166, 1229, 1242, 1255, 1278, 1301, 1324], 159) by decide +kernel) (by decide) rfl
set_option maxRecDepth 20000 in
theorem i218_33_26 : ex_ X d 218 33 [v0, v1, v2, v3] [.int 26] h Q = ex_ X d 218 1090 [v0, v1, v2, v3] [] h Q := R_tsw (off := 1057) (show mx_at 218 33 = some (.tableswitch 1347 0 35 #[159, 202, 235, 278, 311, 344, 387, 420, 443, 476, 539, 562, 625, 648, 671, 714, 747, 770, 793, 826, 859, 892, 915, 968, 991, 1014, 1057, 1080, 1123, 1166, 1229, 1242, 1255, 1278, 1301, 1324], 159) by decide +kernel) (by decide) rfl
set_option maxRecDepth 20000 in
theorem i218_33_27 : ex_ X d 218 33 [v0, v1, v2, v3] [.int 27] h Q = ex_ X d 218 1113 [v0, v1, v2, v3] [] h Q := R_tsw (off := 1080) (show mx_at 218 33 = some (.tableswitch 1347 0 35 #[159, 202, 235, 278, 311, 344, 387, 420, 443, 476, 539, 562, 625, 648, 671, 714, 747, 770, 793, 826, 859, 892, 915, 968, 991, 1014, 1057, 1080, 1123, 1166, 1229, 1242, 1255, 1278, 1301, 1324], 159) by decide +kernel) (by decide) rfl
set_option maxRecDepth 20000 in
theorem i218_33_28 : ex_ X d 218 33 [v0, v1, v2, v3] [.int 28] h Q = ex_ X d 218 1156 [v0, v1, v2, v3] [] h Q := R_tsw (off := 1123) (show mx_at 218 33 = some (.tableswitch 1347 0 35 #[159, 202, 235, 278, 311, 344, 387, 420, 443, 476, 539, 562, 625, 648, 671, 714, 747, 770, 793, 826, 859, 892, 915, 968, 991, 1014, 1057, 1080, 1123, 1166, 1229, 1242, 1255, 1278, 1301, 1324], 159) by decide +kernel) (by decide) rfl
set_option maxRecDepth 20000 in
theorem i218_33_29 : ex_ X d 218 33 [v0, v1, v2, v3] [.int 29] h Q = ex_ X d 218 1199 [v0, v1, v2, v3] [] h Q := R_tsw (off := 1166) (show mx_at 218 33 = some (.tableswitch 1347 0 35 #[159, 202, 235, 278, 311, 344, 387, 420, 443, 476, 539, 562, 625, 648, 671, 714, 747, 770, 793, 826, 859, 892, 915, 968, 991, 1014, 1057, 1080, 1123, 1166, 1229, 1242, 1255, 1278, 1301, 1324], 159) by decide +kernel) (by decide) rfl
set_option maxRecDepth 20000 in
theorem i218_33_30 : ex_ X d 218 33 [v0, v1, v2, v3] [.int 30] h Q = ex_ X d 218 1262 [v0, v1, v2, v3] [] h Q := R_tsw (off := 1229) (show mx_at 218 33 = some (.tableswitch 1347 0 35 #[159, 202, 235, 278, 311, 344, 387, 420, 443, 476, 539, 562, 625, 648, 671, 714, 747, 770, 793, 826, 859, 892, 915, 968, 991, 1014, 1057, 1080, 1123, 1166, 1229, 1242, 1255, 1278, 1301, 1324], 159) by decide +kernel) (by decide) rfl
set_option maxRecDepth 20000 in
theorem i218_33_31 : ex_ X d 218 33 [v0, v1, v2, v3] [.int 31] h Q = ex_ X d 218 1275 [v0, v1, v2, v3] [] h Q := R_tsw (off := 1242) (show mx_at 218 33 = some (.tableswitch 1347 0 35 #[159, 202, 235, 278, 311, 344, 387, 420, 443, 476, 539, 562, 625, 648, 671, 714, 747, 770, 793, 826, 859, 892, 915, 968, 991, 1014, 1057, 1080, 1123, 1166, 1229, 1242, 1255, 1278, 1301, 1324], 159) by decide +kernel) (by decide) rfl
set_option maxRecDepth 20000 in
theorem i218_33_32 : ex_ X d 218 33 [v0, v1, v2, v3] [.int 32] h Q = ex_ X d 218 1288 [v0, v1, v2, v3] [] h Q := R_tsw (off := 1255) (show mx_at 218 33 = some (.tableswitch 1347 0 35 #[159, 202, 235, 278, 311, 344, 387, 420, 443, 476, 539, 562, 625, 648, 671, 714, 747, 770, 793, 826, 859, 892, 915, 968, 991, 1014, 1057, 1080, 1123, 1166, 1229, 1242, 1255, 1278, 1301, 1324], 159) by decide +kernel) (by decide) rfl
set_option maxRecDepth 20000 in
theorem i218_33_33 : ex_ X d 218 33 [v0, v1, v2, v3] [.int 33] h Q = ex_ X d 218 1311 [v0, v1, v2, v3] [] h Q := R_tsw (off := 1278) (show mx_at 218 33 = some (.tableswitch 1347 0 35 #[159, 202, 235, 278, 311, 344, 387, 420, 443, 476, 539, 562, 625, 648, 671, 714, 747, 770, 793, 826, 859, 892, 915, 968, 991, 1014, 1057, 1080, 1123, 1166, 1229, 1242, 1255, 1278, 1301, 1324], 159) by decide +kernel) (by decide) rfl
set_option maxRecDepth 20000 in
theorem i218_33_34 : ex_ X d 218 33 [v0, v1, v2, v3] [.int 34] h Q = ex_ X d 218 1334 [v0, v1, v2, v3] [] h Q := R_tsw (off := 1301) (show mx_at 218 33 = some (.tableswitch 1347 0 35 #[159, 202, 235, 278, 311, 344, 387, 420, 443, 476, 539, 562, 625, 648, 671, 714, 747, 770, 793, 826, 859, 892, 915, 968, 991, 1014, 1057, 1080, 1123, 1166, 1229, 1242, 1255, 1278, 1301, 1324], 159) by decide +kernel) (by decide) rfl
set_option maxRecDepth 20000 in
theorem i218_33_35 : ex_ X d 218 33 [v0, v1, v2, v3] [.int 35] h Q = ex_ X d 218 1357 [v0, v1, v2, v3] [] h Q := R_tsw (off := 1324) (show mx_at 218 33 = some (.tableswitch 1347 0 35 #[159, 202, 235, 278, 311, 344, 387, 420, 443, 476, 539, 562, 625, 648, 671, 714, 747, 770, 793, 826, 859, 892, 915, 968, 991, 1014, 1057, 1080, 1123, 1166, 1229, 1242, 1255, 1278, 1301, 1324], 159) by decide +kernel) (by decide) rfl
set_option maxRecDepth 20000 in
theorem i218_33_d (hx : x.toInt < 0 ∨ 35 < x.toInt) : ex_ X d 218 33 [v0, v1, v2, v3] [.int x] h Q = ex_ X d 218 1380 [v0, v1, v2, v3] [] h Q := R_tsw (off := 1347) (show mx_at 218 33 = some (.tableswitch 1347 0 35 #[159, 202, 235, 278, 311, 344, 387, 420, 443, 476, 539, 562, 625, 648, 671, 714, 747, 770, 793, 826, 859, 892, 915, 968, 991, 1014, 1057, 1080, 1123, 1166, 1229, 1242, 1255, 1278, 1301, 1324], 159) by decide +kernel) (if_pos hx) rfl
set_option maxRecDepth 20000 in
theorem i218_192 : ex_ X d 218 192 [v0, .ref a, v2, v3] [] h Q = ex_ X d 218 193 [v0, .ref a, v2, v3] [.ref a] h Q := ex_nx (show mx_at 218 192 = some (.aload_n 1, 1) by decide +kernel) rfl
set_option maxRecDepth 20000 in
theorem i218_192f0 : ex_ X d 218 192 [v0, .float 1, v2, v3] [] h Q = ex_ X d 218 193 [v0, .float 1, v2, v3] [.float 1] h Q := ex_nx (show mx_at 218 192 = some (.aload_n 1, 1) by decide +kernel) rfl
set_option maxRecDepth 20000 in
theorem i218_193 : ex_ X d 218 193 [.ref a, v1, v2, v3] [w0] h Q = ex_ X d 218 194 [.ref a, v1, v2, v3] [.ref a, w0] h Q := ex_nx (show mx_at 218 193 = some (.aload_n 0, 1) by decide +kernel) rfl
set_option maxRecDepth 20000 in
theorem i218_193f0 : ex_ X d 218 193 [.float 1, v1, v2, v3] [w0] h Q = ex_ X d 218 194 [.float 1, v1, v2, v3] [.float 1, w0] h Q := ex_nx (show mx_at 218 193 = some (.aload_n 0, 1) by decide +kernel) rfl
set_option maxRecDepth 20000 in
theorem i218_194 : ex_ X d 218 194 [v0, v1, v2, .int x] [w0, w1] h Q = ex_ X d 218 195 [v0, v1, v2, .int x] [.int x, w0, w1] h Q := ex_nx (show mx_at 218 194 = some (.iload_n 3, 1) by decide +kernel) rfl
set_option maxRecDepth 20000 in
theorem i218_195 : ex_ X d 218 195 [v0, v1, v2, v3] [w0, w1, w2] h Q = ex_ X d 218 196 [v0, v1, v2, v3] [.int 1, w0, w1, w2] h Q := R_iconst (show mx_at 218 195 = some (.iconst 1, 1) by decide +kernel) (by decide)
set_option maxRecDepth 20000 in
theorem i218_196 : ex_ X d 218 196 [v0, v1, v2, v3] [.int y, .int x, w0, w1] h Q = ex_ X d 218 197 [v0, v1, v2, v3] [.int (x + y), w0, w1] h Q := ex_nx (show mx_at 218 196 = some (.iadd, 1) by decide +kernel) rfl
set_option maxRecDepth 20000 in
theorem i218_197 : ex_ X d 218 197 [v0, v1, v2, v3] [.int i, .ref a, w0] h Q = (ik_ h a i = true ∧ ex_ X d 218 198 [v0, v1, v2, v3] [.int (ia_ h a i), w0] h Q) := R_iald (show mx_at 218 197 = some (.iaload, 1) by decide +kernel)
set_option maxRecDepth 20000 in
theorem i218_197f : ex_ X d 218 197 [v0, v1, v2, v3] [.int i, .float 1, w0] h Q = (mx_in i X.1 = true ∧ ex_ X d 218 198 [v0, v1, v2, v3] [.int (X.2 i.toNatClampNeg), w0] h Q) := R_ialdx (show mx_at 218 197 = some (.iaload, 1) by decide +kernel) rfl
set_option maxRecDepth 20000 in
theorem i218_198 : ex_ X d 218 198 [.ref a, v1, v2, v3] [w0, w1] h Q = ex_ X d 218 199 [.ref a, v1, v2, v3] [.ref a, w0, w1] h Q := ex_nx (show mx_at 218 198 = some (.aload_n 0, 1) by decide +kernel) rfl
set_option maxRecDepth 20000 in
theorem i218_198f0 : ex_ X d 218 198 [.float 1, v1, v2, v3] [w0, w1] h Q = ex_ X d 218 199 [.float 1, v1, v2, v3] [.float 1, w0, w1] h Q := ex_nx (show mx_at 218 198 = some (.aload_n 0, 1) by decide +kernel) rfl
set_option maxRecDepth 20000 in
theorem i218_199 : ex_ X d 218 199 [v0, v1, v2, .int x] [w0, w1, w2] h Q = ex_ X d 218 200 [v0, v1, v2, .int x] [.int x, w0, w1, w2] h Q := ex_nx (show mx_at 218 199 = some (.iload_n 3, 1) by decide +kernel) rfl
set_option maxRecDepth 20000 in
theorem i218_200 : ex_ X d 218 200 [v0, v1, v2, v3] [w0, w1, w2, w3] h Q = ex_ X d 218 201 [v0, v1, v2, v3] [.int 2, w0, w1, w2, w3] h Q := R_iconst (show mx_at 218 200 = some (.iconst 2, 1) by decide +kernel) (by decide)
set_option maxRecDepth 20000 in
theorem i218_201 : ex_ X d 218 201 [v0, v1, v2, v3] [.int y, .int x, w0, w1, w2] h Q = ex_ X d 218 202 [v0, v1, v2, v3] [.int (x + y), w0, w1, w2] h Q := ex_nx (show mx_at 218 201 = some (.iadd, 1) by decide +kernel) rfl
set_option maxRecDepth 20000 in
theorem i218_202 : ex_ X d 218 202 [v0, v1, v2, v3] [.int i, .ref a, w0, w1] h Q = (ik_ h a i = true ∧ ex_ X d 218 203 [v0, v1, v2, v3] [.int (ia_ h a i), w0, w1] h Q) := R_iald (show mx_at 218 202 = some (.iaload, 1) by decide +kernel)
set_option maxRecDepth 20000 in
theorem i218_202f : ex_ X d 218 202 [v0, v1, v2, v3] [.int i, .float 1, w0, w1] h Q = (mx_in i X.1 = true ∧ ex_ X d 218 203 [v0, v1, v2, v3] [.int (X.2 i.toNatClampNeg), w0, w1] h Q) := R_ialdx (show mx_at 218 202 = some (.iaload, 1) by decide +kernel) rfl
set_option maxRecDepth 20000 in
theorem i218_203 : ex_ X d 218 203 [.ref a, v1, v2, v3] [w0, w1, w2] h Q = ex_ X d 218 204 [.ref a, v1, v2, v3] [.ref a, w0, w1, w2] h Q := ex_nx (show mx_at 218 203 = some (.aload_n 0, 1) by decide +kernel) rfl
set_option maxRecDepth 20000 in
theorem i218_203f0 : ex_ X d 218 203 [.float 1, v1, v2, v3] [w0, w1, w2] h Q = ex_ X d 218 204 [.float 1, v1, v2, v3] [.float 1, w0, w1, w2] h Q := ex_nx (show mx_at 218 203 = some (.aload_n 0, 1) by decide +kernel) rfl
set_option maxRecDepth 20000 in
theorem i218_204 : ex_ X d 218 204 [v0, v1, v2, .int x] [w0, w1, w2, w3] h Q = ex_ X d 218 205 [v0, v1, v2, .int x] [.int x, w0, w1, w2, w3] h Q := ex_nx (show mx_at 218 204 = some (.iload_n 3, 1) by decide +kernel) rfl
set_option maxRecDepth 20000 in
theorem i218_205 : ex_ X d 218 205 [v0, v1, v2, v3] [w0, w1, w2, w3, w4] h Q = ex_ X d 218 206 [v0, v1, v2, v3] [.int 3, w0, w1, w2, w3, w4] h Q := R_iconst (show mx_at 218 205 = some (.iconst 3, 1) by decide +kernel) (by decide)
set_option maxRecDepth 20000 in
theorem i218_206 : ex_ X d 218 206 [v0, v1, v2, v3] [.int y, .int x, w0, w1, w2, w3] h Q = ex_ X d 218 207 [v0, v1, v2, v3] [.int (x + y), w0, w1, w2, w3] h Q := ex_nx (show mx_at 218 206 = some (.iadd, 1) by decide +kernel) rfl
set_option maxRecDepth 20000 in
theorem i218_207 : ex_ X d 218 207 [v0, v1, v2, v3] [.int i, .ref a, w0, w1, w2] h Q = (ik_ h a i = true ∧ ex_ X d 218 208 [v0, v1, v2, v3] [.int (ia_ h a i), w0, w1, w2] h Q) := R_iald (show mx_at 218 207 = some (.iaload, 1) by decide +kernel)
set_option maxRecDepth 20000 in
theorem i218_207f : ex_ X d 218 207 [v0, v1, v2, v3] [.int i, .float 1, w0, w1, w2] h Q = (mx_in i X.1 = true ∧ ex_ X d 218 208 [v0, v1, v2, v3] [.int (X.2 i.toNatClampNeg), w0, w1, w2] h Q) := R_ialdx (show mx_at 218 207 = some (.iaload, 1) by decide +kernel) rfl
set_option maxRecDepth 20000 in
theorem i218_208 (hc : co_ h a = some 11) : ex_ X (d + 1) 218 208 [v0, v1, v2, v3] [.int x2, .int x1, .int x0, .ref a] h Q = ev_ X d 70 [.ref a, .int x0, .int x1, .int x2] h (fun r h' => ex_ X (d + 1) 218 211 [v0, v1, v2, v3] (r.toList ++ []) h' Q) := R_vir (show mx_at 218 208 = some (.invokevirtual 13, 3) by decide +kernel) (mx_clk ow218 cc21_13) (Nat.le_of_ble_eq_true rfl) rfl rfl hc rfl (Nat.le_of_ble_eq_true rfl) (Nat.le_of_ble_eq_true rfl) (by rw [ml70]; exact Nat.le_of_ble_eq_true rfl)
set_option maxRecDepth 20000 in
theorem i218_211 : ex_ X d 218 211 [v0, v1, .ref a, v3] [w0] h Q = ex_ X d 218 212 [v0, v1, .ref a, v3] [.ref a, w0] h Q := ex_nx (show mx_at 218 211 = some (.aload_n 2, 1) by decide +kernel) rfl
set_option maxRecDepth 20000 in
theorem i218_211f0 : ex_ X d 218 211 [v0, v1, .float 1, v3] [w0] h Q = ex_ X d 218 212 [v0, v1, .float 1, v3] [.float 1, w0] h Q := ex_nx (show mx_at 218 211 = some (.aload_n 2, 1) by decide +kernel) rfl
set_option maxRecDepth 20000 in
theorem i218_212 : ex_ X d 218 212 [.ref a, v1, v2, v3] [w0, w1] h Q = ex_ X d 218 213 [.ref a, v1, v2, v3] [.ref a, w0, w1] h Q := ex_nx (show mx_at 218 212 = some (.aload_n 0, 1) by decide +kernel) rfl
set_option maxRecDepth 20000 in
theorem i218_212f0 : ex_ X d 218 212 [.float 1, v1, v2, v3] [w0, w1] h Q = ex_ X d 218 213 [.float 1, v1, v2, v3] [.float 1, w0, w1] h Q := ex_nx (show mx_at 218 212 = some (.aload_n 0, 1) by decide +kernel) rfl
set_option maxRecDepth 20000 in
theorem i218_213 : ex_ X d 218 213 [v0, v1, v2, .int x] [w0, w1, w2] h Q = ex_ X d 218 214 [v0, v1, v2, .int x] [.int x, w0, w1, w2] h Q := ex_nx (show mx_at 218 213 = some (.iload_n 3, 1) by decide +kernel) rfl
set_option maxRecDepth 20000 in
theorem i218_214 : ex_ X d 218 214 [v0, v1, v2, v3] [w0, w1, w2, w3] h Q = ex_ X d 218 215 [v0, v1, v2, v3] [.int 1, w0, w1, w2, w3] h Q := R_iconst (show mx_at 218 214 = some (.iconst 1, 1) by decide +kernel) (by decide)
set_option maxRecDepth 20000 in
theorem i218_215 : ex_ X d 218 215 [v0, v1, v2, v3] [.int y, .int x, w0, w1, w2] h Q = ex_ X d 218 216 [v0, v1, v2, v3] [.int (x + y), w0, w1, w2] h Q := ex_nx (show mx_at 218 215 = some (.iadd, 1) by decide +kernel) rfl
set_option maxRecDepth 20000 in
theorem i218_216 : ex_ X d 218 216 [v0, v1, v2, v3] [.int i, .ref a, w0, w1] h Q = (ik_ h a i = true ∧ ex_ X d 218 217 [v0, v1, v2, v3] [.int (ia_ h a i), w0, w1] h Q) := R_iald (show mx_at 218 216 = some (.iaload, 1) by decide +kernel)
set_option maxRecDepth 20000 in
theorem i218_216f : ex_ X d 218 216 [v0, v1, v2, v3] [.int i, .float 1, w0, w1] h Q = (mx_in i X.1 = true ∧ ex_ X d 218 217 [v0, v1, v2, v3] [.int (X.2 i.toNatClampNeg), w0, w1] h Q) := R_ialdx (show mx_at 218 216 = some (.iaload, 1) by decide +kernel) rfl
set_option maxRecDepth 20000 in
theorem i218_217 : ex_ X d 218 217 [.ref a, v1, v2, v3] [w0, w1, w2] h Q = ex_ X d 218 218 [.ref a, v1, v2, v3] [.ref a, w0, w1, w2] h Q := ex_nx (show mx_at 218 217 = some (.aload_n 0, 1) by decide +kernel) rfl
set_option maxRecDepth 20000 in
theorem i218_217f0 : ex_ X d 218 217 [.float 1, v1, v2, v3] [w0, w1, w2] h Q = ex_ X d 218 218 [.float 1, v1, v2, v3] [.float 1, w0, w1, w2] h Q := ex_nx (show mx_at 218 217 = some (.aload_n 0, 1) by decide +kernel) rfl
set_option maxRecDepth 20000 in
theorem i218_218 : ex_ X d 218 218 [v0, v1, v2, .int x] [w0, w1, w2, w3] h Q = ex_ X d 218 219 [v0, v1, v2, .int x] [.int x, w0, w1, w2, w3] h Q := ex_nx (show mx_at 218 218 = some (.iload_n 3, 1) by decide +kernel) rfl
set_option maxRecDepth 20000 in
theorem i218_219 : ex_ X d 218 219 [v0, v1, v2, v3] [w0, w1, w2, w3, w4] h Q = ex_ X d 218 220 [v0, v1, v2, v3] [.int 2, w0, w1, w2, w3, w4] h Q := R_iconst (show mx_at 218 219 = some (.iconst 2, 1) by decide +kernel) (by decide)
set_option maxRecDepth 20000 in
theorem i218_220 : ex_ X d 218 220 [v0, v1, v2, v3] [.int y, .int x, w0, w1, w2, w3] h Q = ex_ X d 218 221 [v0, v1, v2, v3] [.int (x + y), w0, w1, w2, w3] h Q := ex_nx (show mx_at 218 220 = some (.iadd, 1) by decide +kernel) rfl
set_option maxRecDepth 20000 in
theorem i218_221 : ex_ X d 218 221 [v0, v1, v2, v3] [.int i, .ref a, w0, w1, w2] h Q = (ik_ h a i = true ∧ ex_ X d 218 222 [v0, v1, v2, v3] [.int (ia_ h a i), w0, w1, w2] h Q) := R_iald (show mx_at 218 221 = some (.iaload, 1) by decide +kernel)
set_option maxRecDepth 20000 in
theorem i218_221f : ex_ X d 218 221 [v0, v1, v2, v3] [.int i, .float 1, w0, w1, w2] h Q = (mx_in i X.1 = true ∧ ex_ X d 218 222 [v0, v1, v2, v3] [.int (X.2 i.toNatClampNeg), w0, w1, w2] h Q) := R_ialdx (show mx_at 218 221 = some (.iaload, 1) by decide +kernel) rfl
set_option maxRecDepth 20000 in
theorem i218_222 : ex_ X d 218 222 [.ref a, v1, v2, v3] [w0, w1, w2, w3] h Q = ex_ X d 218 223 [.ref a, v1, v2, v3] [.ref a, w0, w1, w2, w3] h Q := ex_nx (show mx_at 218 222 = some (.aload_n 0, 1) by decide +kernel) rfl
set_option maxRecDepth 20000 in
theorem i218_222f0 : ex_ X d 218 222 [.float 1, v1, v2, v3] [w0, w1, w2, w3] h Q = ex_ X d 218 223 [.float 1, v1, v2, v3] [.float 1, w0, w1, w2, w3] h Q := ex_nx (show mx_at 218 222 = some (.aload_n 0, 1) by decide +kernel) rfl
set_option maxRecDepth 20000 in
theorem i218_223 : ex_ X d 218 223 [v0, v1, v2, .int x] [w0, w1, w2, w3, w4] h Q = ex_ X d 218 224 [v0, v1, v2, .int x] [.int x, w0, w1, w2, w3, w4] h Q := ex_nx (show mx_at 218 223 = some (.iload_n 3, 1) by decide +kernel) rfl
set_option maxRecDepth 20000 in
theorem i218_224 : ex_ X d 218 224 [v0, v1, v2, v3] [w0, w1, w2, w3, w4, w5] h Q = ex_ X d 218 225 [v0, v1, v2, v3] [.int 3, w0, w1, w2, w3, w4, w5] h Q := R_iconst (show mx_at 218 224 = some (.iconst 3, 1) by decide +kernel) (by decide)
set_option maxRecDepth 20000 in
theorem i218_225 : ex_ X d 218 225 [v0, v1, v2, v3] [.int y, .int x, w0, w1, w2, w3, w4] h Q = ex_ X d 218 226 [v0, v1, v2, v3] [.int (x + y), w0, w1, w2, w3, w4] h Q := ex_nx (show mx_at 218 225 = some (.iadd, 1) by decide +kernel) rfl
set_option maxRecDepth 20000 in
theorem i218_226 : ex_ X d 218 226 [v0, v1, v2, v3] [.int i, .ref a, w0, w1, w2, w3] h Q = (ik_ h a i = true ∧ ex_ X d 218 227 [v0, v1, v2, v3] [.int (ia_ h a i), w0, w1, w2, w3] h Q) := R_iald (show mx_at 218 226 = some (.iaload, 1) by decide +kernel)
set_option maxRecDepth 20000 in
theorem i218_226f : ex_ X d 218 226 [v0, v1, v2, v3] [.int i, .float 1, w0, w1, w2, w3] h Q = (mx_in i X.1 = true ∧ ex_ X d 218 227 [v0, v1, v2, v3] [.int (X.2 i.toNatClampNeg), w0, w1, w2, w3] h Q) := R_ialdx (show mx_at 218 226 = some (.iaload, 1) by decide +kernel) rfl
set_option maxRecDepth 20000 in
theorem i218_227 (hc : co_ h a = some 12) : ex_ X (d + 1) 218 227 [v0, v1, v2, v3] [.int x2, .int x1, .int x0, .ref a, w0] h Q = ev_ X d 150 [.ref a, .int x0, .int x1, .int x2] h (fun r h' => ex_ X (d + 1) 218 230 [v0, v1, v2, v3] (r.toList ++ [w0]) h' Q) := R_vir (show mx_at 218 227 = some (.invokevirtual 17, 3) by decide +kernel) (mx_clk ow218 cc21_17) (Nat.le_of_ble_eq_true rfl) rfl rfl hc rfl (Nat.le_of_ble_eq_true rfl) (Nat.le_of_ble_eq_true rfl) (by rw [ml150]; exact Nat.le_of_ble_eq_true rfl)
set_option maxRecDepth 20000 in
theorem i218_230 : ex_ X d 218 230 [v0, v1, v2, v3] [.int y, .int x] h Q = if x = y then ex_ X d 218 1380 [v0, v1, v2, v3] [] h Q else ex_ X d 218 233 [v0, v1, v2, v3] [] h Q := (R_br (show mx_at 218 230 = some (.if_icmp .eq 1150, 3) by decide +kernel) rfl rfl).trans mx_ite
set_option maxRecDepth 20000 in
theorem i218_233 : ex_ X d 218 233 [v0, v1, v2, v3] [] h Q = ex_ X d 218 234 [v0, v1, v2, v3] [.int 0] h Q := R_iconst (show mx_at 218 233 = some (.iconst 0, 1) by decide +kernel) (by decide)
set_option maxRecDepth 20000 in
theorem i218_234 (hx : x = 0 ∨ x = 1) : ex_ X d 218 234 [v0, v1, v2, v3] [.int x] h Q = Q (some (.int x)) h := ex_ret (show mx_at 218 234 = some (.ireturn, 1) by decide +kernel) (mx_retZ hx rt218)
set_option maxRecDepth 20000 in
theorem i218_235 : ex_ X d 218 235 [v0, .ref a, v2, v3] [] h Q = ex_ X d 218 236 [v0, .ref a, v2, v3] [.ref a] h Q := ex_nx (show mx_at 218 235 = some (.aload_n 1, 1) by decide +kernel) rfl
set_option maxRecDepth 20000 in
theorem i218_235f0 : ex_ X d 218 235 [v0, .float 1, v2, v3] [] h Q = ex_ X d 218 236 [v0, .float 1, v2, v3] [.float 1] h Q := ex_nx (show mx_at 218 235 = some (.aload_n 1, 1) by decide +kernel) rfl
set_option maxRecDepth 20000 in
theorem i218_236 : ex_ X d 218 236 [.ref a, v1, v2, v3] [w0] h Q = ex_ X d 218 237 [.ref a, v1, v2, v3] [.ref a, w0] h Q := ex_nx (show mx_at 218 236 = some (.aload_n 0, 1) by decide +kernel) rfl
set_option maxRecDepth 20000 in
theorem i218_236f0 : ex_ X d 218 236 [.float 1, v1, v2, v3] [w0] h Q = ex_ X d 218 237 [.float 1, v1, v2, v3] [.float 1, w0] h Q := ex_nx (show mx_at 218 236 = some (.aload_n 0, 1) by decide +kernel) rfl
set_option maxRecDepth 20000 in
theorem i218_237 : ex_ X d 218 237 [v0, v1, v2, .int x] [w0, w1] h Q = ex_ X d 218 238 [v0, v1, v2, .int x] [.int x, w0, w1] h Q := ex_nx (show mx_at 218 237 = some (.iload_n 3, 1) by decide +kernel) rfl
set_option maxRecDepth 20000 in
theorem i218_238 : ex_ X d 218 238 [v0, v1, v2, v3] [w0, w1, w2] h Q = ex_ X d 218 239 [v0, v1, v2, v3] [.int 1, w0, w1, w2] h Q := R_iconst (show mx_at 218 238 = some (.iconst 1, 1) by decide +kernel) (by decide)
set_option maxRecDepth 20000 in
theorem i218_239 : ex_ X d 218 239 [v0, v1, v2, v3] [.int y, .int x, w0, w1] h Q = ex_ X d 218 240 [v0, v1, v2, v3] [.int (x + y), w0, w1] h Q := ex_nx (show mx_at 218 239 = some (.iadd, 1) by decide +kernel) rfl
set_option maxRecDepth 20000 in
theorem i218_240 : ex_ X d 218 240 [v0, v1, v2, v3] [.int i, .ref a, w0] h Q = (ik_ h a i = true ∧ ex_ X d 218 241 [v0, v1, v2, v3] [.int (ia_ h a i), w0] h Q) := R_iald (show mx_at 218 240 = some (.iaload, 1) by decide +kernel)
set_option maxRecDepth 20000 in
theorem i218_240f : ex_ X d 218 240 [v0, v1, v2, v3] [.int i, .float 1, w0] h Q = (mx_in i X.1 = true ∧ ex_ X d 218 241 [v0, v1, v2, v3] [.int (X.2 i.toNatClampNeg), w0] h Q) := R_ialdx (show mx_at 218 240 = some (.iaload, 1) by decide +kernel) rfl
set_option maxRecDepth 20000 in
theorem i218_241 : ex_ X d 218 241 [.ref a, v1, v2, v3] [w0, w1] h Q = ex_ X d 218 242 [.ref a, v1, v2, v3] [.ref a, w0, w1] h Q := ex_nx (show mx_at 218 241 = some (.aload_n 0, 1) by decide +kernel) rfl
set_option maxRecDepth 20000 in
theorem i218_241f0 : ex_ X d 218 241 [.float 1, v1, v2, v3] [w0, w1] h Q = ex_ X d 218 242 [.float 1, v1, v2, v3] [.float 1, w0, w1] h Q := ex_nx (show mx_at 218 241 = some (.aload_n 0, 1) by decide +kernel) rfl
set_option maxRecDepth 20000 in
theorem i218_242 : ex_ X d 218 242 [v0, v1, v2, .int x] [w0, w1, w2] h Q = ex_ X d 218 243 [v0, v1, v2, .int x] [.int x, w0, w1, w2] h Q := ex_nx (show mx_at 218 242 = some (.iload_n 3, 1) by decide +kernel) rfl
set_option maxRecDepth 20000 in
theorem i218_243 : ex_ X d 218 243 [v0, v1, v2, v3] [w0, w1, w2, w3] h Q = ex_ X d 218 244 [v0, v1, v2, v3] [.int 2, w0, w1, w2, w3] h Q := R_iconst (show mx_at 218 243 = some (.iconst 2, 1) by decide +kernel) (by decide)
set_option maxRecDepth 20000 in
theorem i218_244 : ex_ X d 218 244 [v0, v1, v2, v3] [.int y, .int x, w0, w1, w2] h Q = ex_ X d 218 245 [v0, v1, v2, v3] [.int (x + y), w0, w1, w2] h Q := ex_nx (show mx_at 218 244 = some (.iadd, 1) by decide +kernel) rfl
set_option maxRecDepth 20000 in
theorem i218_245 : ex_ X d 218 245 [v0, v1, v2, v3] [.int i, .ref a, w0, w1] h Q = (ik_ h a i = true ∧ ex_ X d 218 246 [v0, v1, v2, v3] [.int (ia_ h a i), w0, w1] h Q) := R_iald (show mx_at 218 245 = some (.iaload, 1) by decide +kernel)
set_option maxRecDepth 20000 in
theorem i218_245f : ex_ X d 218 245 [v0, v1, v2, v3] [.int i, .float 1, w0, w1] h Q = (mx_in i X.1 = true ∧ ex_ X d 218 246 [v0, v1, v2, v3] [.int (X.2 i.toNatClampNeg), w0, w1] h Q) := R_ialdx (show mx_at 218 245 = some (.iaload, 1) by decide +kernel) rfl
set_option maxRecDepth 20000 in
theorem i218_246 (hc : co_ h a = some 11) : ex_ X (d + 1) 218 246 [v0, v1, v2, v3] [.int x1, .int x0, .ref a] h Q = ev_ X d 71 [.ref a, .int x0, .int x1] h (fun r h' => ex_ X (d + 1) 218 249 [v0, v1, v2, v3] (r.toList ++ []) h' Q) := R_vir (show mx_at 218 246 = some (.invokevirtual 18, 3) by decide +kernel) (mx_clk ow218 cc21_18) (Nat.le_of_ble_eq_true rfl) rfl rfl hc rfl (Nat.le_of_ble_eq_true rfl) (Nat.le_of_ble_eq_true rfl) (by rw [ml71]; exact Nat.le_of_ble_eq_true rfl)
set_option maxRecDepth 20000 in
theorem i218_249 : ex_ X d 218 249 [v0, v1, .ref a, v3] [w0] h Q = ex_ X d 218 250 [v0, v1, .ref a, v3] [.ref a, w0] h Q := ex_nx (show mx_at 218 249 = some (.aload_n 2, 1) by decide +kernel) rfl
set_option maxRecDepth 20000 in
theorem i218_249f0 : ex_ X d 218 249 [v0, v1, .float 1, v3] [w0] h Q = ex_ X d 218 250 [v0, v1, .float 1, v3] [.float 1, w0] h Q := ex_nx (show mx_at 218 249 = some (.aload_n 2, 1) by decide +kernel) rfl
set_option maxRecDepth 20000 in
theorem i218_250 : ex_ X d 218 250 [.ref a, v1, v2, v3] [w0, w1] h Q = ex_ X d 218 251 [.ref a, v1, v2, v3] [.ref a, w0, w1] h Q := ex_nx (show mx_at 218 250 = some (.aload_n 0, 1) by decide +kernel) rfl
set_option maxRecDepth 20000 in
theorem i218_250f0 : ex_ X d 218 250 [.float 1, v1, v2, v3] [w0, w1] h Q = ex_ X d 218 251 [.float 1, v1, v2, v3] [.float 1, w0, w1] h Q := ex_nx (show mx_at 218 250 = some (.aload_n 0, 1) by decide +kernel) rfl
set_option maxRecDepth 20000 in
theorem i218_251 : ex_ X d 218 251 [v0, v1, v2, .int x] [w0, w1, w2] h Q = ex_ X d 218 252 [v0, v1, v2, .int x] [.int x, w0, w1, w2] h Q := ex_nx (show mx_at 218 251 = some (.iload_n 3, 1) by decide +kernel) rfl
set_option maxRecDepth 20000 in
theorem i218_252 : ex_ X d 218 252 [v0, v1, v2, v3] [w0, w1, w2, w3] h Q = ex_ X d 218 253 [v0, v1, v2, v3] [.int 1, w0, w1, w2, w3] h Q := R_iconst (show mx_at 218 252 = some (.iconst 1, 1) by decide +kernel) (by decide)
set_option maxRecDepth 20000 in
theorem i218_253 : ex_ X d 218 253 [v0, v1, v2, v3] [.int y, .int x, w0, w1, w2] h Q = ex_ X d 218 254 [v0, v1, v2, v3] [.int (x + y), w0, w1, w2] h Q := ex_nx (show mx_at 218 253 = some (.iadd, 1) by decide +kernel) rfl
set_option maxRecDepth 20000 in
theorem i218_254 : ex_ X d 218 254 [v0, v1, v2, v3] [.int i, .ref a, w0, w1] h Q = (ik_ h a i = true ∧ ex_ X d 218 255 [v0, v1, v2, v3] [.int (ia_ h a i), w0, w1] h Q) := R_iald (show mx_at 218 254 = some (.iaload, 1) by decide +kernel)
set_option maxRecDepth 20000 in
theorem i218_254f : ex_ X d 218 254 [v0, v1, v2, v3] [.int i, .float 1, w0, w1] h Q = (mx_in i X.1 = true ∧ ex_ X d 218 255 [v0, v1, v2, v3] [.int (X.2 i.toNatClampNeg), w0, w1] h Q) := R_ialdx (show mx_at 218 254 = some (.iaload, 1) by decide +kernel) rfl
set_option maxRecDepth 20000 in
theorem i218_255 : ex_ X d 218 255 [.ref a, v1, v2, v3] [w0, w1, w2] h Q = ex_ X d 218 256 [.ref a, v1, v2, v3] [.ref a, w0, w1, w2] h Q := ex_nx (show mx_at 218 255 = some (.aload_n 0, 1) by decide +kernel) rfl
set_option maxRecDepth 20000 in
theorem i218_255f0 : ex_ X d 218 255 [.float 1, v1, v2, v3] [w0, w1, w2] h Q = ex_ X d 218 256 [.float 1, v1, v2, v3] [.float 1, w0, w1, w2] h Q := ex_nx (show mx_at 218 255 = some (.aload_n 0, 1) by decide +kernel) rfl
set_option maxRecDepth 20000 in
theorem i218_256 : ex_ X d 218 256 [v0, v1, v2, .int x] [w0, w1, w2, w3] h Q = ex_ X d 218 257 [v0, v1, v2, .int x] [.int x, w0, w1, w2, w3] h Q := ex_nx (show mx_at 218 256 = some (.iload_n 3, 1) by decide +kernel) rfl
set_option maxRecDepth 20000 in
theorem i218_257 : ex_ X d 218 257 [v0, v1, v2, v3] [w0, w1, w2, w3, w4] h Q = ex_ X d 218 258 [v0, v1, v2, v3] [.int 2, w0, w1, w2, w3, w4] h Q := R_iconst (show mx_at 218 257 = some (.iconst 2, 1) by decide +kernel) (by decide)
set_option maxRecDepth 20000 in
theorem i218_258 : ex_ X d 218 258 [v0, v1, v2, v3] [.int y, .int x, w0, w1, w2, w3] h Q = ex_ X d 218 259 [v0, v1, v2, v3] [.int (x + y), w0, w1, w2, w3] h Q := ex_nx (show mx_at 218 258 = some (.iadd, 1) by decide +kernel) rfl
set_option maxRecDepth 20000 in
theorem i218_259 : ex_ X d 218 259 [v0, v1, v2, v3] [.int i, .ref a, w0, w1, w2] h Q = (ik_ h a i = true ∧ ex_ X d 218 260 [v0, v1, v2, v3] [.int (ia_ h a i), w0, w1, w2] h Q) := R_iald (show mx_at 218 259 = some (.iaload, 1) by decide +kernel)
set_option maxRecDepth 20000 in
theorem i218_259f : ex_ X d 218 259 [v0, v1, v2, v3] [.int i, .float 1, w0, w1, w2] h Q = (mx_in i X.1 = true ∧ ex_ X d 218 260 [v0, v1, v2, v3] [.int (X.2 i.toNatClampNeg), w0, w1, w2] h Q) := R_ialdx (show mx_at 218 259 = some (.iaload, 1) by decide +kernel) rfl
set_option maxRecDepth 20000 in
theorem i218_260 (hc : co_ h a = some 12) : ex_ X (d + 1) 218 260 [v0, v1, v2, v3] [.int x1, .int x0, .ref a, w0] h Q = ev_ X d 155 [.ref a, .int x0, .int x1] h (fun r h' => ex_ X (d + 1) 218 263 [v0, v1, v2, v3] (r.toList ++ [w0]) h' Q) := R_vir (show mx_at 218 260 = some (.invokevirtual 22, 3) by decide +kernel) (mx_clk ow218 cc21_22) (Nat.le_of_ble_eq_true rfl) rfl rfl hc rfl (Nat.le_of_ble_eq_true rfl) (Nat.le_of_ble_eq_true rfl) (by rw [ml155]; exact Nat.le_of_ble_eq_true rfl)
set_option maxRecDepth 20000 in
theorem i218_263 : ex_ X d 218 263 [v0, v1, v2, v3] [.int y, .int x] h Q = if x = y then ex_ X d 218 1380 [v0, v1, v2, v3] [] h Q else ex_ X d 218 266 [v0, v1, v2, v3] [] h Q := (R_br (show mx_at 218 263 = some (.if_icmp .eq 1117, 3) by decide +kernel) rfl rfl).trans mx_ite
set_option maxRecDepth 20000 in
theorem i218_266 : ex_ X d 218 266 [v0, v1, v2, v3] [] h Q = ex_ X d 218 267 [v0, v1, v2, v3] [.int 0] h Q := R_iconst (show mx_at 218 266 = some (.iconst 0, 1) by decide +kernel) (by decide)
set_option maxRecDepth 20000 in
theorem i218_267 (hx : x = 0 ∨ x = 1) : ex_ X d 218 267 [v0, v1, v2, v3] [.int x] h Q = Q (some (.int x)) h := ex_ret (show mx_at 218 267 = some (.ireturn, 1) by decide +kernel) (mx_retZ hx rt218)
set_option maxRecDepth 20000 in
theorem i218_268 : ex_ X d 218 268 [v0, .ref a, v2, v3] [] h Q = ex_ X d 218 269 [v0, .ref a, v2, v3] [.ref a] h Q := ex_nx (show mx_at 218 268 = some (.aload_n 1, 1) by decide +kernel) rfl
set_option maxRecDepth 20000 in
theorem i218_268f0 : ex_ X d 218 268 [v0, .float 1, v2, v3] [] h Q = ex_ X d 218 269 [v0, .float 1, v2, v3] [.float 1] h Q := ex_nx (show mx_at 218 268 = some (.aload_n 1, 1) by decide +kernel) rfl
set_option maxRecDepth 20000 in
theorem i218_269 : ex_ X d 218 269 [.ref a, v1, v2, v3] [w0] h Q = ex_ X d 218 270 [.ref a, v1, v2, v3] [.ref a, w0] h Q := ex_nx (show mx_at 218 269 = some (.aload_n 0, 1) by decide +kernel) rfl
set_option maxRecDepth 20000 in
theorem i218_269f0 : ex_ X d 218 269 [.float 1, v1, v2, v3] [w0] h Q = ex_ X d 218 270 [.float 1, v1, v2, v3] [.float 1, w0] h Q := ex_nx (show mx_at 218 269 = some (.aload_n 0, 1) by decide +kernel) rfl
set_option maxRecDepth 20000 in
theorem i218_270 : ex_ X d 218 270 [v0, v1, v2, .int x] [w0, w1] h Q = ex_ X d 218 271 [v0, v1, v2, .int x] [.int x, w0, w1] h Q := ex_nx (show mx_at 218 270 = some (.iload_n 3, 1) by decide +kernel) rfl
set_option maxRecDepth 20000 in
theorem i218_271 : ex_ X d 218 271 [v0, v1, v2, v3] [w0, w1, w2] h Q = ex_ X d 218 272 [v0, v1, v2, v3] [.int 1, w0, w1, w2] h Q := R_iconst (show mx_at 218 271 = some (.iconst 1, 1) by decide +kernel) (by decide)
set_option maxRecDepth 20000 in
theorem i218_272 : ex_ X d 218 272 [v0, v1, v2, v3] [.int y, .int x, w0, w1] h Q = ex_ X d 218 273 [v0, v1, v2, v3] [.int (x + y), w0, w1] h Q := ex_nx (show mx_at 218 272 = some (.iadd, 1) by decide +kernel) rfl
set_option maxRecDepth 20000 in
theorem i218_273 : ex_ X d 218 273 [v0, v1, v2, v3] [.int i, .ref a, w0] h Q = (ik_ h a i = true ∧ ex_ X d 218 274 [v0, v1, v2, v3] [.int (ia_ h a i), w0] h Q) := R_iald (show mx_at 218 273 = some (.iaload, 1) by decide +kernel)
set_option maxRecDepth 20000 in
theorem i218_273f : ex_ X d 218 273 [v0, v1, v2, v3] [.int i, .float 1, w0] h Q = (mx_in i X.1 = true ∧ ex_ X d 218 274 [v0, v1, v2, v3] [.int (X.2 i.toNatClampNeg), w0] h Q) := R_ialdx (show mx_at 218 273 = some (.iaload, 1) by decide +kernel) rfl
set_option maxRecDepth 20000 in
theorem i218_274 : ex_ X d 218 274 [.ref a, v1, v2, v3] [w0, w1] h Q = ex_ X d 218 275 [.ref a, v1, v2, v3] [.ref a, w0, w1] h Q := ex_nx (show mx_at 218 274 = some (.aload_n 0, 1) by decide +kernel) rfl
set_option maxRecDepth 20000 in
theorem i218_274f0 : ex_ X d 218 274 [.float 1, v1, v2, v3] [w0, w1] h Q = ex_ X d 218 275 [.float 1, v1, v2, v3] [.float 1, w0, w1] h Q := ex_nx (show mx_at 218 274 = some (.aload_n 0, 1) by decide +kernel) rfl
set_option maxRecDepth 20000 in
theorem i218_275 : ex_ X d 218 275 [v0, v1, v2, .int x] [w0, w1, w2] h Q = ex_ X d 218 276 [v0, v1, v2, .int x] [.int x, w0, w1, w2] h Q := ex_nx (show mx_at 218 275 = some (.iload_n 3, 1) by decide +kernel) rfl
set_option maxRecDepth 20000 in
theorem i218_276 : ex_ X d 218 276 [v0, v1, v2, v3] [w0, w1, w2, w3] h Q = ex_ X d 218 277 [v0, v1, v2, v3] [.int 2, w0, w1, w2, w3] h Q := R_iconst (show mx_at 218 276 = some (.iconst 2, 1) by decide +kernel) (by decide)
set_option maxRecDepth 20000 in
theorem i218_277 : ex_ X d 218 277 [v0, v1, v2, v3] [.int y, .int x, w0, w1, w2] h Q = ex_ X d 218 278 [v0, v1, v2, v3] [.int (x + y), w0, w1, w2] h Q := ex_nx (show mx_at 218 277 = some (.iadd, 1) by decide +kernel) rfl
set_option maxRecDepth 20000 in
theorem i218_278 : ex_ X d 218 278 [v0, v1, v2, v3] [.int i, .ref a, w0, w1] h Q = (ik_ h a i = true ∧ ex_ X d 218 279 [v0, v1, v2, v3] [.int (ia_ h a i), w0, w1] h Q) := R_iald (show mx_at 218 278 = some (.iaload, 1) by decide +kernel)
set_option maxRecDepth 20000 in
theorem i218_278f : ex_ X d 218 278 [v0, v1, v2, v3] [.int i, .float 1, w0, w1] h Q = (mx_in i X.1 = true ∧ ex_ X d 218 279 [v0, v1, v2, v3] [.int (X.2 i.toNatClampNeg), w0, w1] h Q) := R_ialdx (show mx_at 218 278 = some (.iaload, 1) by decide +kernel) rfl
set_option maxRecDepth 20000 in
theorem i218_279 : ex_ X d 218 279 [.ref a, v1, v2, v3] [w0, w1, w2] h Q = ex_ X d 218 280 [.ref a, v1, v2, v3] [.ref a, w0, w1, w2] h Q := ex_nx (show mx_at 218 279 = some (.aload_n 0, 1) by decide +kernel) rfl
set_option maxRecDepth 20000 in
theorem i218_279f0 : ex_ X d 218 279 [.float 1, v1, v2, v3] [w0, w1, w2] h Q = ex_ X d 218 280 [.float 1, v1, v2, v3] [.float 1, w0, w1, w2] h Q := ex_nx (show mx_at 218 279 = some (.aload_n 0, 1) by decide +kernel) rfl
set_option maxRecDepth 20000 in
theorem i218_280 : ex_ X d 218 280 [v0, v1, v2, .int x] [w0, w1, w2, w3] h Q = ex_ X d 218 281 [v0, v1, v2, .int x] [.int x, w0, w1, w2, w3] h Q := ex_nx (show mx_at 218 280 = some (.iload_n 3, 1) by decide +kernel) rfl
set_option maxRecDepth 20000 in
theorem i218_281 : ex_ X d 218 281 [v0, v1, v2, v3] [w0, w1, w2, w3, w4] h Q = ex_ X d 218 282 [v0, v1, v2, v3] [.int 3, w0, w1, w2, w3, w4] h Q := R_iconst (show mx_at 218 281 = some (.iconst 3, 1) by decide +kernel) (by decide)
set_option maxRecDepth 20000 in
theorem i218_282 : ex_ X d 218 282 [v0, v1, v2, v3] [.int y, .int x, w0, w1, w2, w3] h Q = ex_ X d 218 283 [v0, v1, v2, v3] [.int (x + y), w0, w1, w2, w3] h Q := ex_nx (show mx_at 218 282 = some (.iadd, 1) by decide +kernel) rfl
set_option maxRecDepth 20000 in
theorem i218_283 : ex_ X d 218 283 [v0, v1, v2, v3] [.int i, .ref a, w0, w1, w2] h Q = (ik_ h a i = true ∧ ex_ X d 218 284 [v0, v1, v2, v3] [.int (ia_ h a i), w0, w1, w2] h Q) := R_iald (show mx_at 218 283 = some (.iaload, 1) by decide +kernel)
set_option maxRecDepth 20000 in
theorem i218_283f : ex_ X d 218 283 [v0, v1, v2, v3] [.int i, .float 1, w0, w1, w2] h Q = (mx_in i X.1 = true ∧ ex_ X d 218 284 [v0, v1, v2, v3] [.int (X.2 i.toNatClampNeg), w0, w1, w2] h Q) := R_ialdx (show mx_at 218 283 = some (.iaload, 1) by decide +kernel) rfl
set_option maxRecDepth 20000 in
theorem i218_284 (hc : co_ h a = some 11) : ex_ X (d + 1) 218 284 [v0, v1, v2, v3] [.int x2, .int x1, .int x0, .ref a] h Q = ev_ X d 72 [.ref a, .int x0, .int x1, .int x2] h (fun r h' => ex_ X (d + 1) 218 287 [v0, v1, v2, v3] (r.toList ++ []) h' Q) := R_vir (show mx_at 218 284 = some (.invokevirtual 23, 3) by decide +kernel) (mx_clk ow218 cc21_23) (Nat.le_of_ble_eq_true rfl) rfl rfl hc rfl (Nat.le_of_ble_eq_true rfl) (Nat.le_of_ble_eq_true rfl) (by rw [ml72]; exact Nat.le_of_ble_eq_true rfl)
set_option maxRecDepth 20000 in
theorem i218_287 : ex_ X d 218 287 [v0, v1, .ref a, v3] [w0] h Q = ex_ X d 218 288 [v0, v1, .ref a, v3] [.ref a, w0] h Q := ex_nx (show mx_at 218 287 = some (.aload_n 2, 1) by decide +kernel) rfl
set_option maxRecDepth 20000 in
theorem i218_287f0 : ex_ X d 218 287 [v0, v1, .float 1, v3] [w0] h Q = ex_ X d 218 288 [v0, v1, .float 1, v3] [.float 1, w0] h Q := ex_nx (show mx_at 218 287 = some (.aload_n 2, 1) by decide +kernel) rfl
set_option maxRecDepth 20000 in
theorem i218_288 : ex_ X d 218 288 [.ref a, v1, v2, v3] [w0, w1] h Q = ex_ X d 218 289 [.ref a, v1, v2, v3] [.ref a, w0, w1] h Q := ex_nx (show mx_at 218 288 = some (.aload_n 0, 1) by decide +kernel) rfl
set_option maxRecDepth 20000 in
theorem i218_288f0 : ex_ X d 218 288 [.float 1, v1, v2, v3] [w0, w1] h Q = ex_ X d 218 289 [.float 1, v1, v2, v3] [.float 1, w0, w1] h Q := ex_nx (show mx_at 218 288 = some (.aload_n 0, 1) by decide +kernel) rfl
set_option maxRecDepth 20000 in
theorem i218_289 : ex_ X d 218 289 [v0, v1, v2, .int x] [w0, w1, w2] h Q = ex_ X d 218 290 [v0, v1, v2, .int x] [.int x, w0, w1, w2] h Q := ex_nx (show mx_at 218 289 = some (.iload_n 3, 1) by decide +kernel) rfl
set_option maxRecDepth 20000 in
theorem i218_290 : ex_ X d 218 290 [v0, v1, v2, v3] [w0, w1, w2, w3] h Q = ex_ X d 218 291 [v0, v1, v2, v3] [.int 1, w0, w1, w2, w3] h Q := R_iconst (show mx_at 218 290 = some (.iconst 1, 1) by decide +kernel) (by decide)
set_option maxRecDepth 20000 in
theorem i218_291 : ex_ X d 218 291 [v0, v1, v2, v3] [.int y, .int x, w0, w1, w2] h Q = ex_ X d 218 292 [v0, v1, v2, v3] [.int (x + y), w0, w1, w2] h Q := ex_nx (show mx_at 218 291 = some (.iadd, 1) by decide +kernel) rfl
set_option maxRecDepth 20000 in
theorem i218_292 : ex_ X d 218 292 [v0, v1, v2, v3] [.int i, .ref a, w0, w1] h Q = (ik_ h a i = true ∧ ex_ X d 218 293 [v0, v1, v2, v3] [.int (ia_ h a i), w0, w1] h Q) := R_iald (show mx_at 218 292 = some (.iaload, 1) by decide +kernel)
set_option maxRecDepth 20000 in
theorem i218_292f : ex_ X d 218 292 [v0, v1, v2, v3] [.int i, .float 1, w0, w1] h Q = (mx_in i X.1 = true ∧ ex_ X d 218 293 [v0, v1, v2, v3] [.int (X.2 i.toNatClampNeg), w0, w1] h Q) := R_ialdx (show mx_at 218 292 = some (.iaload, 1) by decide +kernel) rfl
set_option maxRecDepth 20000 in
theorem i218_293 : ex_ X d 218 293 [.ref a, v1, v2, v3] [w0, w1, w2] h Q = ex_ X d 218 294 [.ref a, v1, v2, v3] [.ref a, w0, w1, w2] h Q := ex_nx (show mx_at 218 293 = some (.aload_n 0, 1) by decide +kernel) rfl
set_option maxRecDepth 20000 in
theorem i218_293f0 : ex_ X d 218 293 [.float 1, v1, v2, v3] [w0, w1, w2] h Q = ex_ X d 218 294 [.float 1, v1, v2, v3] [.float 1, w0, w1, w2] h Q := ex_nx (show mx_at 218 293 = some (.aload_n 0, 1) by decide +kernel) rfl
set_option maxRecDepth 20000 in
theorem i218_294 : ex_ X d 218 294 [v0, v1, v2, .int x] [w0, w1, w2, w3] h Q = ex_ X d 218 295 [v0, v1, v2, .int x] [.int x, w0, w1, w2, w3] h Q := ex_nx (show mx_at 218 294 = some (.iload_n 3, 1) by decide +kernel) rfl
set_option maxRecDepth 20000 in
theorem i218_295 : ex_ X d 218 295 [v0, v1, v2, v3] [w0, w1, w2, w3, w4] h Q = ex_ X d 218 296 [v0, v1, v2, v3] [.int 2, w0, w1, w2, w3, w4] h Q := R_iconst (show mx_at 218 295 = some (.iconst 2, 1) by decide +kernel) (by decide)
set_option maxRecDepth 20000 in
theorem i218_296 : ex_ X d 218 296 [v0, v1, v2, v3] [.int y, .int x, w0, w1, w2, w3] h Q = ex_ X d 218 297 [v0, v1, v2, v3] [.int (x + y), w0, w1, w2, w3] h Q := ex_nx (show mx_at 218 296 = some (.iadd, 1) by decide +kernel) rfl
set_option maxRecDepth 20000 in
theorem i218_297 : ex_ X d 218 297 [v0, v1, v2, v3] [.int i, .ref a, w0, w1, w2] h Q = (ik_ h a i = true ∧ ex_ X d 218 298 [v0, v1, v2, v3] [.int (ia_ h a i), w0, w1, w2] h Q) := R_iald (show mx_at 218 297 = some (.iaload, 1) by decide +kernel)
set_option maxRecDepth 20000 in
theorem i218_297f : ex_ X d 218 297 [v0, v1, v2, v3] [.int i, .float 1, w0, w1, w2] h Q = (mx_in i X.1 = true ∧ ex_ X d 218 298 [v0, v1, v2, v3] [.int (X.2 i.toNatClampNeg), w0, w1, w2] h Q) := R_ialdx (show mx_at 218 297 = some (.iaload, 1) by decide +kernel) rfl
set_option maxRecDepth 20000 in
theorem i218_298 : ex_ X d 218 298 [.ref a, v1, v2, v3] [w0, w1, w2, w3] h Q = ex_ X d 218 299 [.ref a, v1, v2, v3] [.ref a, w0, w1, w2, w3] h Q := ex_nx (show mx_at 218 298 = some (.aload_n 0, 1) by decide +kernel) rfl
set_option maxRecDepth 20000 in
theorem i218_298f0 : ex_ X d 218 298 [.float 1, v1, v2, v3] [w0, w1, w2, w3] h Q = ex_ X d 218 299 [.float 1, v1, v2, v3] [.float 1, w0, w1, w2, w3] h Q := ex_nx (show mx_at 218 298 = some (.aload_n 0, 1) by decide +kernel) rfl
set_option maxRecDepth 20000 in
theorem i218_299 : ex_ X d 218 299 [v0, v1, v2, .int x] [w0, w1, w2, w3, w4] h Q = ex_ X d 218 300 [v0, v1, v2, .int x] [.int x, w0, w1, w2, w3, w4] h Q := ex_nx (show mx_at 218 299 = some (.iload_n 3, 1) by decide +kernel) rfl
set_option maxRecDepth 20000 in
theorem i218_300 : ex_ X d 218 300 [v0, v1, v2, v3] [w0, w1, w2, w3, w4, w5] h Q = ex_ X d 218 301 [v0, v1, v2, v3] [.int 3, w0, w1, w2, w3, w4, w5] h Q := R_iconst (show mx_at 218 300 = some (.iconst 3, 1) by decide +kernel) (by decide)
set_option maxRecDepth 20000 in
theorem i218_301 : ex_ X d 218 301 [v0, v1, v2, v3] [.int y, .int x, w0, w1, w2, w3, w4] h Q = ex_ X d 218 302 [v0, v1, v2, v3] [.int (x + y), w0, w1, w2, w3, w4] h Q := ex_nx (show mx_at 218 301 = some (.iadd, 1) by decide +kernel) rfl
set_option maxRecDepth 20000 in
theorem i218_302 : ex_ X d 218 302 [v0, v1, v2, v3] [.int i, .ref a, w0, w1, w2, w3] h Q = (ik_ h a i = true ∧ ex_ X d 218 303 [v0, v1, v2, v3] [.int (ia_ h a i), w0, w1, w2, w3] h Q) := R_iald (show mx_at 218 302 = some (.iaload, 1) by decide +kernel)
set_option maxRecDepth 20000 in
theorem i218_302f : ex_ X d 218 302 [v0, v1, v2, v3] [.int i, .float 1, w0, w1, w2, w3] h Q = (mx_in i X.1 = true ∧ ex_ X d 218 303 [v0, v1, v2, v3] [.int (X.2 i.toNatClampNeg), w0, w1, w2, w3] h Q) := R_ialdx (show mx_at 218 302 = some (.iaload, 1) by decide +kernel) rfl
set_option maxRecDepth 20000 in
theorem i218_303 (hc : co_ h a = some 12) : ex_ X (d + 1) 218 303 [v0, v1, v2, v3] [.int x2, .int x1, .int x0, .ref a, w0] h Q = ev_ X d 156 [.ref a, .int x0, .int x1, .int x2] h (fun r h' => ex_ X (d + 1) 218 306 [v0, v1, v2, v3] (r.toList ++ [w0]) h' Q) := R_vir (show mx_at 218 303 = some (.invokevirtual 26, 3) by decide +kernel) (mx_clk ow218 cc21_26) (Nat.le_of_ble_eq_true rfl) rfl rfl hc rfl (Nat.le_of_ble_eq_true rfl) (Nat.le_of_ble_eq_true rfl) (by rw [ml156]; exact Nat.le_of_ble_eq_true rfl)
set_option maxRecDepth 20000 in
theorem i218_306 : ex_ X d 218 306 [v0, v1, v2, v3] [.int y, .int x] h Q = if x = y then ex_ X d 218 1380 [v0, v1, v2, v3] [] h Q else ex_ X d 218 309 [v0, v1, v2, v3] [] h Q := (R_br (show mx_at 218 306 = some (.if_icmp .eq 1074, 3) by decide +kernel) rfl rfl).trans mx_ite
set_option maxRecDepth 20000 in
theorem i218_309 : ex_ X d 218 309 [v0, v1, v2, v3] [] h Q = ex_ X d 218 310 [v0, v1, v2, v3] [.int 0] h Q := R_iconst (show mx_at 218 309 = some (.iconst 0, 1) by decide +kernel) (by decide)
set_option maxRecDepth 20000 in
theorem i218_310 (hx : x = 0 ∨ x = 1) : ex_ X d 218 310 [v0, v1, v2, v3] [.int x] h Q = Q (some (.int x)) h := ex_ret (show mx_at 218 310 = some (.ireturn, 1) by decide +kernel) (mx_retZ hx rt218)
set_option maxRecDepth 20000 in
theorem i218_311 : ex_ X d 218 311 [v0, .ref a, v2, v3] [] h Q = ex_ X d 218 312 [v0, .ref a, v2, v3] [.ref a] h Q := ex_nx (show mx_at 218 311 = some (.aload_n 1, 1) by decide +kernel) rfl
set_option maxRecDepth 20000 in
theorem i218_311f0 : ex_ X d 218 311 [v0, .float 1, v2, v3] [] h Q = ex_ X d 218 312 [v0, .float 1, v2, v3] [.float 1] h Q := ex_nx (show mx_at 218 311 = some (.aload_n 1, 1) by decide +kernel) rfl
set_option maxRecDepth 20000 in
theorem i218_312 : ex_ X d 218 312 [.ref a, v1, v2, v3] [w0] h Q = ex_ X d 218 313 [.ref a, v1, v2, v3] [.ref a, w0] h Q := ex_nx (show mx_at 218 312 = some (.aload_n 0, 1) by decide +kernel) rfl
set_option maxRecDepth 20000 in
theorem i218_312f0 : ex_ X d 218 312 [.float 1, v1, v2, v3] [w0] h Q = ex_ X d 218 313 [.float 1, v1, v2, v3] [.float 1, w0] h Q := ex_nx (show mx_at 218 312 = some (.aload_n 0, 1) by decide +kernel) rfl
set_option maxRecDepth 20000 in
theorem i218_313 : ex_ X d 218 313 [v0, v1, v2, .int x] [w0, w1] h Q = ex_ X d 218 314 [v0, v1, v2, .int x] [.int x, w0, w1] h Q := ex_nx (show mx_at 218 313 = some (.iload_n 3, 1) by decide +kernel) rfl
set_option maxRecDepth 20000 in
theorem i218_314 : ex_ X d 218 314 [v0, v1, v2, v3] [w0, w1, w2] h Q = ex_ X d 218 315 [v0, v1, v2, v3] [.int 1, w0, w1, w2] h Q := R_iconst (show mx_at 218 314 = some (.iconst 1, 1) by decide +kernel) (by decide)
set_option maxRecDepth 20000 in
theorem i218_315 : ex_ X d 218 315 [v0, v1, v2, v3] [.int y, .int x, w0, w1] h Q = ex_ X d 218 316 [v0, v1, v2, v3] [.int (x + y), w0, w1] h Q := ex_nx (show mx_at 218 315 = some (.iadd, 1) by decide +kernel) rfl
set_option maxRecDepth 20000 in
theorem i218_316 : ex_ X d 218 316 [v0, v1, v2, v3] [.int i, .ref a, w0] h Q = (ik_ h a i = true ∧ ex_ X d 218 317 [v0, v1, v2, v3] [.int (ia_ h a i), w0] h Q) := R_iald (show mx_at 218 316 = some (.iaload, 1) by decide +kernel)
set_option maxRecDepth 20000 in
theorem i218_316f : ex_ X d 218 316 [v0, v1, v2, v3] [.int i, .float 1, w0] h Q = (mx_in i X.1 = true ∧ ex_ X d 218 317 [v0, v1, v2, v3] [.int (X.2 i.toNatClampNeg), w0] h Q) := R_ialdx (show mx_at 218 316 = some (.iaload, 1) by decide +kernel) rfl
set_option maxRecDepth 20000 in
theorem i218_317 : ex_ X d 218 317 [.ref a, v1, v2, v3] [w0, w1] h Q = ex_ X d 218 318 [.ref a, v1, v2, v3] [.ref a, w0, w1] h Q := ex_nx (show mx_at 218 317 = some (.aload_n 0, 1) by decide +kernel) rfl
set_option maxRecDepth 20000 in
theorem i218_317f0 : ex_ X d 218 317 [.float 1, v1, v2, v3] [w0, w1] h Q = ex_ X d 218 318 [.float 1, v1, v2, v3] [.float 1, w0, w1] h Q := ex_nx (show mx_at 218 317 = some (.aload_n 0, 1) by decide +kernel) rfl
set_option maxRecDepth 20000 in
theorem i218_318 : ex_ X d 218 318 [v0, v1, v2, .int x] [w0, w1, w2] h Q = ex_ X d 218 319 [v0, v1, v2, .int x] [.int x, w0, w1, w2] h Q := ex_nx (show mx_at 218 318 = some (.iload_n 3, 1) by decide +kernel) rfl
set_option maxRecDepth 20000 in
theorem i218_319 : ex_ X d 218 319 [v0, v1, v2, v3] [w0, w1, w2, w3] h Q = ex_ X d 218 320 [v0, v1, v2, v3] [.int 2, w0, w1, w2, w3] h Q := R_iconst (show mx_at 218 319 = some (.iconst 2, 1) by decide +kernel) (by decide)
set_option maxRecDepth 20000 in
theorem i218_320 : ex_ X d 218 320 [v0, v1, v2, v3] [.int y, .int x, w0, w1, w2] h Q = ex_ X d 218 321 [v0, v1, v2, v3] [.int (x + y), w0, w1, w2] h Q := ex_nx (show mx_at 218 320 = some (.iadd, 1) by decide +kernel) rfl
set_option maxRecDepth 20000 in
theorem i218_321 : ex_ X d 218 321 [v0, v1, v2, v3] [.int i, .ref a, w0, w1] h Q = (ik_ h a i = true ∧ ex_ X d 218 322 [v0, v1, v2, v3] [.int (ia_ h a i), w0, w1] h Q) := R_iald (show mx_at 218 321 = some (.iaload, 1) by decide +kernel)
set_option maxRecDepth 20000 in
theorem i218_321f : ex_ X d 218 321 [v0, v1, v2, v3] [.int i, .float 1, w0, w1] h Q = (mx_in i X.1 = true ∧ ex_ X d 218 322 [v0, v1, v2, v3] [.int (X.2 i.toNatClampNeg), w0, w1] h Q) := R_ialdx (show mx_at 218 321 = some (.iaload, 1) by decide +kernel) rfl
set_option maxRecDepth 20000 in
theorem i218_322 (hc : co_ h a = some 11) : ex_ X (d + 1) 218 322 [v0, v1, v2, v3] [.int x1, .int x0, .ref a] h Q = ev_ X d 73 [.ref a, .int x0, .int x1] h (fun r h' => ex_ X (d + 1) 218 325 [v0, v1, v2, v3] (r.toList ++ []) h' Q) := R_vir (show mx_at 218 322 = some (.invokevirtual 27, 3) by decide +kernel) (mx_clk ow218 cc21_27) (Nat.le_of_ble_eq_true rfl) rfl rfl hc rfl (Nat.le_of_ble_eq_true rfl) (Nat.le_of_ble_eq_true rfl) (by rw [ml73]; exact Nat.le_of_ble_eq_true rfl)
set_option maxRecDepth 20000 in
theorem i218_325 : ex_ X d 218 325 [v0, v1, .ref a, v3] [w0] h Q = ex_ X d 218 326 [v0, v1, .ref a, v3] [.ref a, w0] h Q := ex_nx (show mx_at 218 325 = some (.aload_n 2, 1) by decide +kernel) rfl
set_option maxRecDepth 20000 in
theorem i218_325f0 : ex_ X d 218 325 [v0, v1, .float 1, v3] [w0] h Q = ex_ X d 218 326 [v0, v1, .float 1, v3] [.float 1, w0] h Q := ex_nx (show mx_at 218 325 = some (.aload_n 2, 1) by decide +kernel) rfl
set_option maxRecDepth 20000 in
theorem i218_326 : ex_ X d 218 326 [.ref a, v1, v2, v3] [w0, w1] h Q = ex_ X d 218 327 [.ref a, v1, v2, v3] [.ref a, w0, w1] h Q := ex_nx (show mx_at 218 326 = some (.aload_n 0, 1) by decide +kernel) rfl
set_option maxRecDepth 20000 in
theorem i218_326f0 : ex_ X d 218 326 [.float 1, v1, v2, v3] [w0, w1] h Q = ex_ X d 218 327 [.float 1, v1, v2, v3] [.float 1, w0, w1] h Q := ex_nx (show mx_at 218 326 = some (.aload_n 0, 1) by decide +kernel) rfl
set_option maxRecDepth 20000 in
theorem i218_327 : ex_ X d 218 327 [v0, v1, v2, .int x] [w0, w1, w2] h Q = ex_ X d 218 328 [v0, v1, v2, .int x] [.int x, w0, w1, w2] h Q := ex_nx (show mx_at 218 327 = some (.iload_n 3, 1) by decide +kernel) rfl
set_option maxRecDepth 20000 in
theorem i218_328 : ex_ X d 218 328 [v0, v1, v2, v3] [w0, w1, w2, w3] h Q = ex_ X d 218 329 [v0, v1, v2, v3] [.int 1, w0, w1, w2, w3] h Q := R_iconst (show mx_at 218 328 = some (.iconst 1, 1) by decide +kernel) (by decide)
set_option maxRecDepth 20000 in
theorem i218_329 : ex_ X d 218 329 [v0, v1, v2, v3] [.int y, .int x, w0, w1, w2] h Q = ex_ X d 218 330 [v0, v1, v2, v3] [.int (x + y), w0, w1, w2] h Q := ex_nx (show mx_at 218 329 = some (.iadd, 1) by decide +kernel) rfl
set_option maxRecDepth 20000 in
theorem i218_330 : ex_ X d 218 330 [v0, v1, v2, v3] [.int i, .ref a, w0, w1] h Q = (ik_ h a i = true ∧ ex_ X d 218 331 [v0, v1, v2, v3] [.int (ia_ h a i), w0, w1] h Q) := R_iald (show mx_at 218 330 = some (.iaload, 1) by decide +kernel)
set_option maxRecDepth 20000 in
theorem i218_330f : ex_ X d 218 330 [v0, v1, v2, v3] [.int i, .float 1, w0, w1] h Q = (mx_in i X.1 = true ∧ ex_ X d 218 331 [v0, v1, v2, v3] [.int (X.2 i.toNatClampNeg), w0, w1] h Q) := R_ialdx (show mx_at 218 330 = some (.iaload, 1) by decide +kernel) rfl
set_option maxRecDepth 20000 in
theorem i218_331 : ex_ X d 218 331 [.ref a, v1, v2, v3] [w0, w1, w2] h Q = ex_ X d 218 332 [.ref a, v1, v2, v3] [.ref a, w0, w1, w2] h Q := ex_nx (show mx_at 218 331 = some (.aload_n 0, 1) by decide +kernel) rfl
set_option maxRecDepth 20000 in
theorem i218_331f0 : ex_ X d 218 331 [.float 1, v1, v2, v3] [w0, w1, w2] h Q = ex_ X d 218 332 [.float 1, v1, v2, v3] [.float 1, w0, w1, w2] h Q := ex_nx (show mx_at 218 331 = some (.aload_n 0, 1) by decide +kernel) rfl
set_option maxRecDepth 20000 in
theorem i218_332 : ex_ X d 218 332 [v0, v1, v2, .int x] [w0, w1, w2, w3] h Q = ex_ X d 218 333 [v0, v1, v2, .int x] [.int x, w0, w1, w2, w3] h Q := ex_nx (show mx_at 218 332 = some (.iload_n 3, 1) by decide +kernel) rfl
set_option maxRecDepth 20000 in
theorem i218_333 : ex_ X d 218 333 [v0, v1, v2, v3] [w0, w1, w2, w3, w4] h Q = ex_ X d 218 334 [v0, v1, v2, v3] [.int 2, w0, w1, w2, w3, w4] h Q := R_iconst (show mx_at 218 333 = some (.iconst 2, 1) by decide +kernel) (by decide)
set_option maxRecDepth 20000 in
theorem i218_334 : ex_ X d 218 334 [v0, v1, v2, v3] [.int y, .int x, w0, w1, w2, w3] h Q = ex_ X d 218 335 [v0, v1, v2, v3] [.int (x + y), w0, w1, w2, w3] h Q := ex_nx (show mx_at 218 334 = some (.iadd, 1) by decide +kernel) rfl
set_option maxRecDepth 20000 in
theorem i218_335 : ex_ X d 218 335 [v0, v1, v2, v3] [.int i, .ref a, w0, w1, w2] h Q = (ik_ h a i = true ∧ ex_ X d 218 336 [v0, v1, v2, v3] [.int (ia_ h a i), w0, w1, w2] h Q) := R_iald (show mx_at 218 335 = some (.iaload, 1) by decide +kernel)
set_option maxRecDepth 20000 in
theorem i218_335f : ex_ X d 218 335 [v0, v1, v2, v3] [.int i, .float 1, w0, w1, w2] h Q = (mx_in i X.1 = true ∧ ex_ X d 218 336 [v0, v1, v2, v3] [.int (X.2 i.toNatClampNeg), w0, w1, w2] h Q) := R_ialdx (show mx_at 218 335 = some (.iaload, 1) by decide +kernel) rfl
set_option maxRecDepth 20000 in
theorem i218_336 (hc : co_ h a = some 12) : ex_ X (d + 1) 218 336 [v0, v1, v2, v3] [.int x1, .int x0, .ref a, w0] h Q = ev_ X d 158 [.ref a, .int x0, .int x1] h (fun r h' => ex_ X (d + 1) 218 339 [v0, v1, v2, v3] (r.toList ++ [w0]) h' Q) := R_vir (show mx_at 218 336 = some (.invokevirtual 30, 3) by decide +kernel) (mx_clk ow218 cc21_30) (Nat.le_of_ble_eq_true rfl) rfl rfl hc rfl (Nat.le_of_ble_eq_true rfl) (Nat.le_of_ble_eq_true rfl) (by rw [ml158]; exact Nat.le_of_ble_eq_true rfl)
set_option maxRecDepth 20000 in
theorem i218_339 : ex_ X d 218 339 [v0, v1, v2, v3] [.int y, .int x] h Q = if x = y then ex_ X d 218 1380 [v0, v1, v2, v3] [] h Q else ex_ X d 218 342 [v0, v1, v2, v3] [] h Q := (R_br (show mx_at 218 339 = some (.if_icmp .eq 1041, 3) by decide +kernel) rfl rfl).trans mx_ite
set_option maxRecDepth 20000 in
theorem i218_342 : ex_ X d 218 342 [v0, v1, v2, v3] [] h Q = ex_ X d 218 343 [v0, v1, v2, v3] [.int 0] h Q := R_iconst (show mx_at 218 342 = some (.iconst 0, 1) by decide +kernel) (by decide)
set_option maxRecDepth 20000 in
theorem i218_343 (hx : x = 0 ∨ x = 1) : ex_ X d 218 343 [v0, v1, v2, v3] [.int x] h Q = Q (some (.int x)) h := ex_ret (show mx_at 218 343 = some (.ireturn, 1) by decide +kernel) (mx_retZ hx rt218)
set_option maxRecDepth 20000 in
theorem i218_344 : ex_ X d 218 344 [v0, .ref a, v2, v3] [] h Q = ex_ X d 218 345 [v0, .ref a, v2, v3] [.ref a] h Q := ex_nx (show mx_at 218 344 = some (.aload_n 1, 1) by decide +kernel) rfl
set_option maxRecDepth 20000 in
theorem i218_344f0 : ex_ X d 218 344 [v0, .float 1, v2, v3] [] h Q = ex_ X d 218 345 [v0, .float 1, v2, v3] [.float 1] h Q := ex_nx (show mx_at 218 344 = some (.aload_n 1, 1) by decide +kernel) rfl
set_option maxRecDepth 20000 in
theorem i218_345 : ex_ X d 218 345 [.ref a, v1, v2, v3] [w0] h Q = ex_ X d 218 346 [.ref a, v1, v2, v3] [.ref a, w0] h Q := ex_nx (show mx_at 218 345 = some (.aload_n 0, 1) by decide +kernel) rfl
set_option maxRecDepth 20000 in
theorem i218_345f0 : ex_ X d 218 345 [.float 1, v1, v2, v3] [w0] h Q = ex_ X d 218 346 [.float 1, v1, v2, v3] [.float 1, w0] h Q := ex_nx (show mx_at 218 345 = some (.aload_n 0, 1) by decide +kernel) rfl
set_option maxRecDepth 20000 in
theorem i218_346 : ex_ X d 218 346 [v0, v1, v2, .int x] [w0, w1] h Q = ex_ X d 218 347 [v0, v1, v2, .int x] [.int x, w0, w1] h Q := ex_nx (show mx_at 218 346 = some (.iload_n 3, 1) by decide +kernel) rfl
set_option maxRecDepth 20000 in
theorem i218_347 : ex_ X d 218 347 [v0, v1, v2, v3] [w0, w1, w2] h Q = ex_ X d 218 348 [v0, v1, v2, v3] [.int 1, w0, w1, w2] h Q := R_iconst (show mx_at 218 347 = some (.iconst 1, 1) by decide +kernel) (by decide)
set_option maxRecDepth 20000 in
theorem i218_348 : ex_ X d 218 348 [v0, v1, v2, v3] [.int y, .int x, w0, w1] h Q = ex_ X d 218 349 [v0, v1, v2, v3] [.int (x + y), w0, w1] h Q := ex_nx (show mx_at 218 348 = some (.iadd, 1) by decide +kernel) rfl
set_option maxRecDepth 20000 in
theorem i218_349 : ex_ X d 218 349 [v0, v1, v2, v3] [.int i, .ref a, w0] h Q = (ik_ h a i = true ∧ ex_ X d 218 350 [v0, v1, v2, v3] [.int (ia_ h a i), w0] h Q) := R_iald (show mx_at 218 349 = some (.iaload, 1) by decide +kernel)
set_option maxRecDepth 20000 in
theorem i218_349f : ex_ X d 218 349 [v0, v1, v2, v3] [.int i, .float 1, w0] h Q = (mx_in i X.1 = true ∧ ex_ X d 218 350 [v0, v1, v2, v3] [.int (X.2 i.toNatClampNeg), w0] h Q) := R_ialdx (show mx_at 218 349 = some (.iaload, 1) by decide +kernel) rfl
set_option maxRecDepth 20000 in
theorem i218_350 : ex_ X d 218 350 [.ref a, v1, v2, v3] [w0, w1] h Q = ex_ X d 218 351 [.ref a, v1, v2, v3] [.ref a, w0, w1] h Q := ex_nx (show mx_at 218 350 = some (.aload_n 0, 1) by decide +kernel) rfl
set_option maxRecDepth 20000 in
theorem i218_350f0 : ex_ X d 218 350 [.float 1, v1, v2, v3] [w0, w1] h Q = ex_ X d 218 351 [.float 1, v1, v2, v3] [.float 1, w0, w1] h Q := ex_nx (show mx_at 218 350 = some (.aload_n 0, 1) by decide +kernel) rfl
set_option maxRecDepth 20000 in
theorem i218_351 : ex_ X d 218 351 [v0, v1, v2, .int x] [w0, w1, w2] h Q = ex_ X d 218 352 [v0, v1, v2, .int x] [.int x, w0, w1, w2] h Q := ex_nx (show mx_at 218 351 = some (.iload_n 3, 1) by decide +kernel) rfl
set_option maxRecDepth 20000 in
theorem i218_352 : ex_ X d 218 352 [v0, v1, v2, v3] [w0, w1, w2, w3] h Q = ex_ X d 218 353 [v0, v1, v2, v3] [.int 2, w0, w1, w2, w3] h Q := R_iconst (show mx_at 218 352 = some (.iconst 2, 1) by decide +kernel) (by decide)
set_option maxRecDepth 20000 in
theorem i218_353 : ex_ X d 218 353 [v0, v1, v2, v3] [.int y, .int x, w0, w1, w2] h Q = ex_ X d 218 354 [v0, v1, v2, v3] [.int (x + y), w0, w1, w2] h Q := ex_nx (show mx_at 218 353 = some (.iadd, 1) by decide +kernel) rfl
set_option maxRecDepth 20000 in
theorem i218_354 : ex_ X d 218 354 [v0, v1, v2, v3] [.int i, .ref a, w0, w1] h Q = (ik_ h a i = true ∧ ex_ X d 218 355 [v0, v1, v2, v3] [.int (ia_ h a i), w0, w1] h Q) := R_iald (show mx_at 218 354 = some (.iaload, 1) by decide +kernel)
set_option maxRecDepth 20000 in
theorem i218_354f : ex_ X d 218 354 [v0, v1, v2, v3] [.int i, .float 1, w0, w1] h Q = (mx_in i X.1 = true ∧ ex_ X d 218 355 [v0, v1, v2, v3] [.int (X.2 i.toNatClampNeg), w0, w1] h Q) := R_ialdx (show mx_at 218 354 = some (.iaload, 1) by decide +kernel) rfl
set_option maxRecDepth 20000 in
theorem i218_355 (hc : co_ h a = some 11) : ex_ X (d + 1) 218 355 [v0, v1, v2, v3] [.int x1, .int x0, .ref a] h Q = ev_ X d 74 [.ref a, .int x0, .int x1] h (fun r h' => ex_ X (d + 1) 218 358 [v0, v1, v2, v3] (r.toList ++ []) h' Q) := R_vir (show mx_at 218 355 = some (.invokevirtual 31, 3) by decide +kernel) (mx_clk ow218 cc21_31) (Nat.le_of_ble_eq_true rfl) rfl rfl hc rfl (Nat.le_of_ble_eq_true rfl) (Nat.le_of_ble_eq_true rfl) (by rw [ml74]; exact Nat.le_of_ble_eq_true rfl)
set_option maxRecDepth 20000 in
theorem i218_358 : ex_ X d 218 358 [v0, v1, .ref a, v3] [w0] h Q = ex_ X d 218 359 [v0, v1, .ref a, v3] [.ref a, w0] h Q := ex_nx (show mx_at 218 358 = some (.aload_n 2, 1) by decide +kernel) rfl
set_option maxRecDepth 20000 in
theorem i218_358f0 : ex_ X d 218 358 [v0, v1, .float 1, v3] [w0] h Q = ex_ X d 218 359 [v0, v1, .float 1, v3] [.float 1, w0] h Q := ex_nx (show mx_at 218 358 = some (.aload_n 2, 1) by decide +kernel) rfl
set_option maxRecDepth 20000 in
theorem i218_359 : ex_ X d 218 359 [.ref a, v1, v2, v3] [w0, w1] h Q = ex_ X d 218 360 [.ref a, v1, v2, v3] [.ref a, w0, w1] h Q := ex_nx (show mx_at 218 359 = some (.aload_n 0, 1) by decide +kernel) rfl
set_option maxRecDepth 20000 in
theorem i218_359f0 : ex_ X d 218 359 [.float 1, v1, v2, v3] [w0, w1] h Q = ex_ X d 218 360 [.float 1, v1, v2, v3] [.float 1, w0, w1] h Q := ex_nx (show mx_at 218 359 = some (.aload_n 0, 1) by decide +kernel) rfl
set_option maxRecDepth 20000 in
theorem i218_360 : ex_ X d 218 360 [v0, v1, v2, .int x] [w0, w1, w2] h Q = ex_ X d 218 361 [v0, v1, v2, .int x] [.int x, w0, w1, w2] h Q := ex_nx (show mx_at 218 360 = some (.iload_n 3, 1) by decide +kernel) rfl
set_option maxRecDepth 20000 in
theorem i218_361 : ex_ X d 218 361 [v0, v1, v2, v3] [w0, w1, w2, w3] h Q = ex_ X d 218 362 [v0, v1, v2, v3] [.int 1, w0, w1, w2, w3] h Q := R_iconst (show mx_at 218 361 = some (.iconst 1, 1) by decide +kernel) (by decide)
set_option maxRecDepth 20000 in
theorem i218_362 : ex_ X d 218 362 [v0, v1, v2, v3] [.int y, .int x, w0, w1, w2] h Q = ex_ X d 218 363 [v0, v1, v2, v3] [.int (x + y), w0, w1, w2] h Q := ex_nx (show mx_at 218 362 = some (.iadd, 1) by decide +kernel) rfl
set_option maxRecDepth 20000 in
theorem i218_363 : ex_ X d 218 363 [v0, v1, v2, v3] [.int i, .ref a, w0, w1] h Q = (ik_ h a i = true ∧ ex_ X d 218 364 [v0, v1, v2, v3] [.int (ia_ h a i), w0, w1] h Q) := R_iald (show mx_at 218 363 = some (.iaload, 1) by decide +kernel)
set_option maxRecDepth 20000 in
theorem i218_363f : ex_ X d 218 363 [v0, v1, v2, v3] [.int i, .float 1, w0, w1] h Q = (mx_in i X.1 = true ∧ ex_ X d 218 364 [v0, v1, v2, v3] [.int (X.2 i.toNatClampNeg), w0, w1] h Q) := R_ialdx (show mx_at 218 363 = some (.iaload, 1) by decide +kernel) rfl
set_option maxRecDepth 20000 in
theorem i218_364 : ex_ X d 218 364 [.ref a, v1, v2, v3] [w0, w1, w2] h Q = ex_ X d 218 365 [.ref a, v1, v2, v3] [.ref a, w0, w1, w2] h Q := ex_nx (show mx_at 218 364 = some (.aload_n 0, 1) by decide +kernel) rfl
set_option maxRecDepth 20000 in
theorem i218_364f0 : ex_ X d 218 364 [.float 1, v1, v2, v3] [w0, w1, w2] h Q = ex_ X d 218 365 [.float 1, v1, v2, v3] [.float 1, w0, w1, w2] h Q := ex_nx (show mx_at 218 364 = some (.aload_n 0, 1) by decide +kernel) rfl
set_option maxRecDepth 20000 in
theorem i218_365 : ex_ X d 218 365 [v0, v1, v2, .int x] [w0, w1, w2, w3] h Q = ex_ X d 218 366 [v0, v1, v2, .int x] [.int x, w0, w1, w2, w3] h Q := ex_nx (show mx_at 218 365 = some (.iload_n 3, 1) by decide +kernel) rfl
set_option maxRecDepth 20000 in
theorem i218_366 : ex_ X d 218 366 [v0, v1, v2, v3] [w0, w1, w2, w3, w4] h Q = ex_ X d 218 367 [v0, v1, v2, v3] [.int 2, w0, w1, w2, w3, w4] h Q := R_iconst (show mx_at 218 366 = some (.iconst 2, 1) by decide +kernel) (by decide)
set_option maxRecDepth 20000 in
theorem i218_367 : ex_ X d 218 367 [v0, v1, v2, v3] [.int y, .int x, w0, w1, w2, w3] h Q = ex_ X d 218 368 [v0, v1, v2, v3] [.int (x + y), w0, w1, w2, w3] h Q := ex_nx (show mx_at 218 367 = some (.iadd, 1) by decide +kernel) rfl
set_option maxRecDepth 20000 in
theorem i218_368 : ex_ X d 218 368 [v0, v1, v2, v3] [.int i, .ref a, w0, w1, w2] h Q = (ik_ h a i = true ∧ ex_ X d 218 369 [v0, v1, v2, v3] [.int (ia_ h a i), w0, w1, w2] h Q) := R_iald (show mx_at 218 368 = some (.iaload, 1) by decide +kernel)
set_option maxRecDepth 20000 in
theorem i218_368f : ex_ X d 218 368 [v0, v1, v2, v3] [.int i, .float 1, w0, w1, w2] h Q = (mx_in i X.1 = true ∧ ex_ X d 218 369 [v0, v1, v2, v3] [.int (X.2 i.toNatClampNeg), w0, w1, w2] h Q) := R_ialdx (show mx_at 218 368 = some (.iaload, 1) by decide +kernel) rfl
set_option maxRecDepth 20000 in
theorem i218_369 (hc : co_ h a = some 12) : ex_ X (d + 1) 218 369 [v0, v1, v2, v3] [.int x1, .int x0, .ref a, w0] h Q = ev_ X d 159 [.ref a, .int x0, .int x1] h (fun r h' => ex_ X (d + 1) 218 372 [v0, v1, v2, v3] (r.toList ++ [w0]) h' Q) := R_vir (show mx_at 218 369 = some (.invokevirtual 34, 3) by decide +kernel) (mx_clk ow218 cc21_34) (Nat.le_of_ble_eq_true rfl) rfl rfl hc rfl (Nat.le_of_ble_eq_true rfl) (Nat.le_of_ble_eq_true rfl) (by rw [ml159]; exact Nat.le_of_ble_eq_true rfl)
set_option maxRecDepth 20000 in
theorem i218_372 : ex_ X d 218 372 [v0, v1, v2, v3] [.int y, .int x] h Q = if x = y then ex_ X d 218 1380 [v0, v1, v2, v3] [] h Q else ex_ X d 218 375 [v0, v1, v2, v3] [] h Q := (R_br (show mx_at 218 372 = some (.if_icmp .eq 1008, 3) by decide +kernel) rfl rfl).trans mx_ite
set_option maxRecDepth 20000 in
theorem i218_375 : ex_ X d 218 375 [v0, v1, v2, v3] [] h Q = ex_ X d 218 376 [v0, v1, v2, v3] [.int 0] h Q := R_iconst (show mx_at 218 375 = some (.iconst 0, 1) by decide +kernel) (by decide)
set_option maxRecDepth 20000 in
theorem i218_376 (hx : x = 0 ∨ x = 1) : ex_ X d 218 376 [v0, v1, v2, v3] [.int x] h Q = Q (some (.int x)) h := ex_ret (show mx_at 218 376 = some (.ireturn, 1) by decide +kernel) (mx_retZ hx rt218)
set_option maxRecDepth 20000 in
theorem i218_377 : ex_ X d 218 377 [v0, .ref a, v2, v3] [] h Q = ex_ X d 218 378 [v0, .ref a, v2, v3] [.ref a] h Q := ex_nx (show mx_at 218 377 = some (.aload_n 1, 1) by decide +kernel) rfl
set_option maxRecDepth 20000 in
theorem i218_377f0 : ex_ X d 218 377 [v0, .float 1, v2, v3] [] h Q = ex_ X d 218 378 [v0, .float 1, v2, v3] [.float 1] h Q := ex_nx (show mx_at 218 377 = some (.aload_n 1, 1) by decide +kernel) rfl
set_option maxRecDepth 20000 in
theorem i218_378 : ex_ X d 218 378 [.ref a, v1, v2, v3] [w0] h Q = ex_ X d 218 379 [.ref a, v1, v2, v3] [.ref a, w0] h Q := ex_nx (show mx_at 218 378 = some (.aload_n 0, 1) by decide +kernel) rfl
set_option maxRecDepth 20000 in
theorem i218_378f0 : ex_ X d 218 378 [.float 1, v1, v2, v3] [w0] h Q = ex_ X d 218 379 [.float 1, v1, v2, v3] [.float 1, w0] h Q := ex_nx (show mx_at 218 378 = some (.aload_n 0, 1) by decide +kernel) rfl
set_option maxRecDepth 20000 in
theorem i218_379 : ex_ X d 218 379 [v0, v1, v2, .int x] [w0, w1] h Q = ex_ X d 218 380 [v0, v1, v2, .int x] [.int x, w0, w1] h Q := ex_nx (show mx_at 218 379 = some (.iload_n 3, 1) by decide +kernel) rfl
set_option maxRecDepth 20000 in
theorem i218_380 : ex_ X d 218 380 [v0, v1, v2, v3] [w0, w1, w2] h Q = ex_ X d 218 381 [v0, v1, v2, v3] [.int 1, w0, w1, w2] h Q := R_iconst (show mx_at 218 380 = some (.iconst 1, 1) by decide +kernel) (by decide)
set_option maxRecDepth 20000 in
theorem i218_381 : ex_ X d 218 381 [v0, v1, v2, v3] [.int y, .int x, w0, w1] h Q = ex_ X d 218 382 [v0, v1, v2, v3] [.int (x + y), w0, w1] h Q := ex_nx (show mx_at 218 381 = some (.iadd, 1) by decide +kernel) rfl
set_option maxRecDepth 20000 in
theorem i218_382 : ex_ X d 218 382 [v0, v1, v2, v3] [.int i, .ref a, w0] h Q = (ik_ h a i = true ∧ ex_ X d 218 383 [v0, v1, v2, v3] [.int (ia_ h a i), w0] h Q) := R_iald (show mx_at 218 382 = some (.iaload, 1) by decide +kernel)
set_option maxRecDepth 20000 in
theorem i218_382f : ex_ X d 218 382 [v0, v1, v2, v3] [.int i, .float 1, w0] h Q = (mx_in i X.1 = true ∧ ex_ X d 218 383 [v0, v1, v2, v3] [.int (X.2 i.toNatClampNeg), w0] h Q) := R_ialdx (show mx_at 218 382 = some (.iaload, 1) by decide +kernel) rfl
set_option maxRecDepth 20000 in
theorem i218_383 : ex_ X d 218 383 [.ref a, v1, v2, v3] [w0, w1] h Q = ex_ X d 218 384 [.ref a, v1, v2, v3] [.ref a, w0, w1] h Q := ex_nx (show mx_at 218 383 = some (.aload_n 0, 1) by decide +kernel) rfl
set_option maxRecDepth 20000 in
theorem i218_383f0 : ex_ X d 218 383 [.float 1, v1, v2, v3] [w0, w1] h Q = ex_ X d 218 384 [.float 1, v1, v2, v3] [.float 1, w0, w1] h Q := ex_nx (show mx_at 218 383 = some (.aload_n 0, 1) by decide +kernel) rfl
set_option maxRecDepth 20000 in
theorem i218_384 : ex_ X d 218 384 [v0, v1, v2, .int x] [w0, w1, w2] h Q = ex_ X d 218 385 [v0, v1, v2, .int x] [.int x, w0, w1, w2] h Q := ex_nx (show mx_at 218 384 = some (.iload_n 3, 1) by decide +kernel) rfl
set_option maxRecDepth 20000 in
theorem i218_385 : ex_ X d 218 385 [v0, v1, v2, v3] [w0, w1, w2, w3] h Q = ex_ X d 218 386 [v0, v1, v2, v3] [.int 2, w0, w1, w2, w3] h Q := R_iconst (show mx_at 218 385 = some (.iconst 2, 1) by decide +kernel) (by decide)
set_option maxRecDepth 20000 in
theorem i218_386 : ex_ X d 218 386 [v0, v1, v2, v3] [.int y, .int x, w0, w1, w2] h Q = ex_ X d 218 387 [v0, v1, v2, v3] [.int (x + y), w0, w1, w2] h Q := ex_nx (show mx_at 218 386 = some (.iadd, 1) by decide +kernel) rfl
set_option maxRecDepth 20000 in
theorem i218_387 : ex_ X d 218 387 [v0, v1, v2, v3] [.int i, .ref a, w0, w1] h Q = (ik_ h a i = true ∧ ex_ X d 218 388 [v0, v1, v2, v3] [.int (ia_ h a i), w0, w1] h Q) := R_iald (show mx_at 218 387 = some (.iaload, 1) by decide +kernel)
set_option maxRecDepth 20000 in
theorem i218_387f : ex_ X d 218 387 [v0, v1, v2, v3] [.int i, .float 1, w0, w1] h Q = (mx_in i X.1 = true ∧ ex_ X d 218 388 [v0, v1, v2, v3] [.int (X.2 i.toNatClampNeg), w0, w1] h Q) := R_ialdx (show mx_at 218 387 = some (.iaload, 1) by decide +kernel) rfl
set_option maxRecDepth 20000 in
theorem i218_388 : ex_ X d 218 388 [.ref a, v1, v2, v3] [w0, w1, w2] h Q = ex_ X d 218 389 [.ref a, v1, v2, v3] [.ref a, w0, w1, w2] h Q := ex_nx (show mx_at 218 388 = some (.aload_n 0, 1) by decide +kernel) rfl
set_option maxRecDepth 20000 in
theorem i218_388f0 : ex_ X d 218 388 [.float 1, v1, v2, v3] [w0, w1, w2] h Q = ex_ X d 218 389 [.float 1, v1, v2, v3] [.float 1, w0, w1, w2] h Q := ex_nx (show mx_at 218 388 = some (.aload_n 0, 1) by decide +kernel) rfl
set_option maxRecDepth 20000 in
theorem i218_389 : ex_ X d 218 389 [v0, v1, v2, .int x] [w0, w1, w2, w3] h Q = ex_ X d 218 390 [v0, v1, v2, .int x] [.int x, w0, w1, w2, w3] h Q := ex_nx (show mx_at 218 389 = some (.iload_n 3, 1) by decide +kernel) rfl
set_option maxRecDepth 20000 in
theorem i218_390 : ex_ X d 218 390 [v0, v1, v2, v3] [w0, w1, w2, w3, w4] h Q = ex_ X d 218 391 [v0, v1, v2, v3] [.int 3, w0, w1, w2, w3, w4] h Q := R_iconst (show mx_at 218 390 = some (.iconst 3, 1) by decide +kernel) (by decide)
set_option maxRecDepth 20000 in
theorem i218_391 : ex_ X d 218 391 [v0, v1, v2, v3] [.int y, .int x, w0, w1, w2, w3] h Q = ex_ X d 218 392 [v0, v1, v2, v3] [.int (x + y), w0, w1, w2, w3] h Q := ex_nx (show mx_at 218 391 = some (.iadd, 1) by decide +kernel) rfl
set_option maxRecDepth 20000 in
theorem i218_392 : ex_ X d 218 392 [v0, v1, v2, v3] [.int i, .ref a, w0, w1, w2] h Q = (ik_ h a i = true ∧ ex_ X d 218 393 [v0, v1, v2, v3] [.int (ia_ h a i), w0, w1, w2] h Q) := R_iald (show mx_at 218 392 = some (.iaload, 1) by decide +kernel)
set_option maxRecDepth 20000 in
theorem i218_392f : ex_ X d 218 392 [v0, v1, v2, v3] [.int i, .float 1, w0, w1, w2] h Q = (mx_in i X.1 = true ∧ ex_ X d 218 393 [v0, v1, v2, v3] [.int (X.2 i.toNatClampNeg), w0, w1, w2] h Q) := R_ialdx (show mx_at 218 392 = some (.iaload, 1) by decide +kernel) rfl
set_option maxRecDepth 20000 in
theorem i218_393 (hc : co_ h a = some 11) : ex_ X (d + 1) 218 393 [v0, v1, v2, v3] [.int x2, .int x1, .int x0, .ref a] h Q = ev_ X d 75 [.ref a, .int x0, .int x1, .int x2] h (fun r h' => ex_ X (d + 1) 218 396 [v0, v1, v2, v3] (r.toList ++ []) h' Q) := R_vir (show mx_at 218 393 = some (.invokevirtual 35, 3) by decide +kernel) (mx_clk ow218 cc21_35) (Nat.le_of_ble_eq_true rfl) rfl rfl hc rfl (Nat.le_of_ble_eq_true rfl) (Nat.le_of_ble_eq_true rfl) (by rw [ml75]; exact Nat.le_of_ble_eq_true rfl)
set_option maxRecDepth 20000 in
theorem i218_396 : ex_ X d 218 396 [v0, v1, .ref a, v3] [w0] h Q = ex_ X d 218 397 [v0, v1, .ref a, v3] [.ref a, w0] h Q := ex_nx (show mx_at 218 396 = some (.aload_n 2, 1) by decide +kernel) rfl
set_option maxRecDepth 20000 in
theorem i218_396f0 : ex_ X d 218 396 [v0, v1, .float 1, v3] [w0] h Q = ex_ X d 218 397 [v0, v1, .float 1, v3] [.float 1, w0] h Q := ex_nx (show mx_at 218 396 = some (.aload_n 2, 1) by decide +kernel) rfl
set_option maxRecDepth 20000 in
theorem i218_397 : ex_ X d 218 397 [.ref a, v1, v2, v3] [w0, w1] h Q = ex_ X d 218 398 [.ref a, v1, v2, v3] [.ref a, w0, w1] h Q := ex_nx (show mx_at 218 397 = some (.aload_n 0, 1) by decide +kernel) rfl
set_option maxRecDepth 20000 in
theorem i218_397f0 : ex_ X d 218 397 [.float 1, v1, v2, v3] [w0, w1] h Q = ex_ X d 218 398 [.float 1, v1, v2, v3] [.float 1, w0, w1] h Q := ex_nx (show mx_at 218 397 = some (.aload_n 0, 1) by decide +kernel) rfl
set_option maxRecDepth 20000 in
theorem i218_398 : ex_ X d 218 398 [v0, v1, v2, .int x] [w0, w1, w2] h Q = ex_ X d 218 399 [v0, v1, v2, .int x] [.int x, w0, w1, w2] h Q := ex_nx (show mx_at 218 398 = some (.iload_n 3, 1) by decide +kernel) rfl
set_option maxRecDepth 20000 in
theorem i218_399 : ex_ X d 218 399 [v0, v1, v2, v3] [w0, w1, w2, w3] h Q = ex_ X d 218 400 [v0, v1, v2, v3] [.int 1, w0, w1, w2, w3] h Q := R_iconst (show mx_at 218 399 = some (.iconst 1, 1) by decide +kernel) (by decide)
set_option maxRecDepth 20000 in
theorem i218_400 : ex_ X d 218 400 [v0, v1, v2, v3] [.int y, .int x, w0, w1, w2] h Q = ex_ X d 218 401 [v0, v1, v2, v3] [.int (x + y), w0, w1, w2] h Q := ex_nx (show mx_at 218 400 = some (.iadd, 1) by decide +kernel) rfl
set_option maxRecDepth 20000 in
theorem i218_401 : ex_ X d 218 401 [v0, v1, v2, v3] [.int i, .ref a, w0, w1] h Q = (ik_ h a i = true ∧ ex_ X d 218 402 [v0, v1, v2, v3] [.int (ia_ h a i), w0, w1] h Q) := R_iald (show mx_at 218 401 = some (.iaload, 1) by decide +kernel)
set_option maxRecDepth 20000 in
theorem i218_401f : ex_ X d 218 401 [v0, v1, v2, v3] [.int i, .float 1, w0, w1] h Q = (mx_in i X.1 = true ∧ ex_ X d 218 402 [v0, v1, v2, v3] [.int (X.2 i.toNatClampNeg), w0, w1] h Q) := R_ialdx (show mx_at 218 401 = some (.iaload, 1) by decide +kernel) rfl
set_option maxRecDepth 20000 in
theorem i218_402 : ex_ X d 218 402 [.ref a, v1, v2, v3] [w0, w1, w2] h Q = ex_ X d 218 403 [.ref a, v1, v2, v3] [.ref a, w0, w1, w2] h Q := ex_nx (show mx_at 218 402 = some (.aload_n 0, 1) by decide +kernel) rfl
set_option maxRecDepth 20000 in
theorem i218_402f0 : ex_ X d 218 402 [.float 1, v1, v2, v3] [w0, w1, w2] h Q = ex_ X d 218 403 [.float 1, v1, v2, v3] [.float 1, w0, w1, w2] h Q := ex_nx (show mx_at 218 402 = some (.aload_n 0, 1) by decide +kernel) rfl
set_option maxRecDepth 20000 in
theorem i218_403 : ex_ X d 218 403 [v0, v1, v2, .int x] [w0, w1, w2, w3] h Q = ex_ X d 218 404 [v0, v1, v2, .int x] [.int x, w0, w1, w2, w3] h Q := ex_nx (show mx_at 218 403 = some (.iload_n 3, 1) by decide +kernel) rfl
set_option maxRecDepth 20000 in
theorem i218_404 : ex_ X d 218 404 [v0, v1, v2, v3] [w0, w1, w2, w3, w4] h Q = ex_ X d 218 405 [v0, v1, v2, v3] [.int 2, w0, w1, w2, w3, w4] h Q := R_iconst (show mx_at 218 404 = some (.iconst 2, 1) by decide +kernel) (by decide)
set_option maxRecDepth 20000 in
theorem i218_405 : ex_ X d 218 405 [v0, v1, v2, v3] [.int y, .int x, w0, w1, w2, w3] h Q = ex_ X d 218 406 [v0, v1, v2, v3] [.int (x + y), w0, w1, w2, w3] h Q := ex_nx (show mx_at 218 405 = some (.iadd, 1) by decide +kernel) rfl
set_option maxRecDepth 20000 in
theorem i218_406 : ex_ X d 218 406 [v0, v1, v2, v3] [.int i, .ref a, w0, w1, w2] h Q = (ik_ h a i = true ∧ ex_ X d 218 407 [v0, v1, v2, v3] [.int (ia_ h a i), w0, w1, w2] h Q) := R_iald (show mx_at 218 406 = some (.iaload, 1) by decide +kernel)
set_option maxRecDepth 20000 in
theorem i218_406f : ex_ X d 218 406 [v0, v1, v2, v3] [.int i, .float 1, w0, w1, w2] h Q = (mx_in i X.1 = true ∧ ex_ X d 218 407 [v0, v1, v2, v3] [.int (X.2 i.toNatClampNeg), w0, w1, w2] h Q) := R_ialdx (show mx_at 218 406 = some (.iaload, 1) by decide +kernel) rfl
set_option maxRecDepth 20000 in
theorem i218_407 : ex_ X d 218 407 [.ref a, v1, v2, v3] [w0, w1, w2, w3] h Q = ex_ X d 218 408 [.ref a, v1, v2, v3] [.ref a, w0, w1, w2, w3] h Q := ex_nx (show mx_at 218 407 = some (.aload_n 0, 1) by decide +kernel) rfl
set_option maxRecDepth 20000 in
theorem i218_407f0 : ex_ X d 218 407 [.float 1, v1, v2, v3] [w0, w1, w2, w3] h Q = ex_ X d 218 408 [.float 1, v1, v2, v3] [.float 1, w0, w1, w2, w3] h Q := ex_nx (show mx_at 218 407 = some (.aload_n 0, 1) by decide +kernel) rfl
set_option maxRecDepth 20000 in
theorem i218_408 : ex_ X d 218 408 [v0, v1, v2, .int x] [w0, w1, w2, w3, w4] h Q = ex_ X d 218 409 [v0, v1, v2, .int x] [.int x, w0, w1, w2, w3, w4] h Q := ex_nx (show mx_at 218 408 = some (.iload_n 3, 1) by decide +kernel) rfl
set_option maxRecDepth 20000 in
theorem i218_409 : ex_ X d 218 409 [v0, v1, v2, v3] [w0, w1, w2, w3, w4, w5] h Q = ex_ X d 218 410 [v0, v1, v2, v3] [.int 3, w0, w1, w2, w3, w4, w5] h Q := R_iconst (show mx_at 218 409 = some (.iconst 3, 1) by decide +kernel) (by decide)
set_option maxRecDepth 20000 in
theorem i218_410 : ex_ X d 218 410 [v0, v1, v2, v3] [.int y, .int x, w0, w1, w2, w3, w4] h Q = ex_ X d 218 411 [v0, v1, v2, v3] [.int (x + y), w0, w1, w2, w3, w4] h Q := ex_nx (show mx_at 218 410 = some (.iadd, 1) by decide +kernel) rfl
set_option maxRecDepth 20000 in
theorem i218_411 : ex_ X d 218 411 [v0, v1, v2, v3] [.int i, .ref a, w0, w1, w2, w3] h Q = (ik_ h a i = true ∧ ex_ X d 218 412 [v0, v1, v2, v3] [.int (ia_ h a i), w0, w1, w2, w3] h Q) := R_iald (show mx_at 218 411 = some (.iaload, 1) by decide +kernel)
set_option maxRecDepth 20000 in
theorem i218_411f : ex_ X d 218 411 [v0, v1, v2, v3] [.int i, .float 1, w0, w1, w2, w3] h Q = (mx_in i X.1 = true ∧ ex_ X d 218 412 [v0, v1, v2, v3] [.int (X.2 i.toNatClampNeg), w0, w1, w2, w3] h Q) := R_ialdx (show mx_at 218 411 = some (.iaload, 1) by decide +kernel) rfl
set_option maxRecDepth 20000 in
theorem i218_412 (hc : co_ h a = some 12) : ex_ X (d + 1) 218 412 [v0, v1, v2, v3] [.int x2, .int x1, .int x0, .ref a, w0] h Q = ev_ X d 162 [.ref a, .int x0, .int x1, .int x2] h (fun r h' => ex_ X (d + 1) 218 415 [v0, v1, v2, v3] (r.toList ++ [w0]) h' Q) := R_vir (show mx_at 218 412 = some (.invokevirtual 38, 3) by decide +kernel) (mx_clk ow218 cc21_38) (Nat.le_of_ble_eq_true rfl) rfl rfl hc rfl (Nat.le_of_ble_eq_true rfl) (Nat.le_of_ble_eq_true rfl) (by rw [ml162]; exact Nat.le_of_ble_eq_true rfl)
set_option maxRecDepth 20000 in
theorem i218_415 : ex_ X d 218 415 [v0, v1, v2, v3] [.int y, .int x] h Q = if x = y then ex_ X d 218 1380 [v0, v1, v2, v3] [] h Q else ex_ X d 218 418 [v0, v1, v2, v3] [] h Q := (R_br (show mx_at 218 415 = some (.if_icmp .eq 965, 3) by decide +kernel) rfl rfl).trans mx_ite
set_option maxRecDepth 20000 in
theorem i218_418 : ex_ X d 218 418 [v0, v1, v2, v3] [] h Q = ex_ X d 218 419 [v0, v1, v2, v3] [.int 0] h Q := R_iconst (show mx_at 218 418 = some (.iconst 0, 1) by decide +kernel) (by decide)
set_option maxRecDepth 20000 in
theorem i218_419 (hx : x = 0 ∨ x = 1) : ex_ X d 218 419 [v0, v1, v2, v3] [.int x] h Q = Q (some (.int x)) h := ex_ret (show mx_at 218 419 = some (.ireturn, 1) by decide +kernel) (mx_retZ hx rt218)
set_option maxRecDepth 20000 in
theorem i218_420 : ex_ X d 218 420 [v0, .ref a, v2, v3] [] h Q = ex_ X d 218 421 [v0, .ref a, v2, v3] [.ref a] h Q := ex_nx (show mx_at 218 420 = some (.aload_n 1, 1) by decide +kernel) rfl
set_option maxRecDepth 20000 in
theorem i218_420f0 : ex_ X d 218 420 [v0, .float 1, v2, v3] [] h Q = ex_ X d 218 421 [v0, .float 1, v2, v3] [.float 1] h Q := ex_nx (show mx_at 218 420 = some (.aload_n 1, 1) by decide +kernel) rfl
set_option maxRecDepth 20000 in
theorem i218_421 : ex_ X d 218 421 [.ref a, v1, v2, v3] [w0] h Q = ex_ X d 218 422 [.ref a, v1, v2, v3] [.ref a, w0] h Q := ex_nx (show mx_at 218 421 = some (.aload_n 0, 1) by decide +kernel) rfl
set_option maxRecDepth 20000 in
theorem i218_421f0 : ex_ X d 218 421 [.float 1, v1, v2, v3] [w0] h Q = ex_ X d 218 422 [.float 1, v1, v2, v3] [.float 1, w0] h Q := ex_nx (show mx_at 218 421 = some (.aload_n 0, 1) by decide +kernel) rfl
set_option maxRecDepth 20000 in
theorem i218_422 : ex_ X d 218 422 [v0, v1, v2, .int x] [w0, w1] h Q = ex_ X d 218 423 [v0, v1, v2, .int x] [.int x, w0, w1] h Q := ex_nx (show mx_at 218 422 = some (.iload_n 3, 1) by decide +kernel) rfl
set_option maxRecDepth 20000 in
theorem i218_423 : ex_ X d 218 423 [v0, v1, v2, v3] [w0, w1, w2] h Q = ex_ X d 218 424 [v0, v1, v2, v3] [.int 1, w0, w1, w2] h Q := R_iconst (show mx_at 218 423 = some (.iconst 1, 1) by decide +kernel) (by decide)
set_option maxRecDepth 20000 in
theorem i218_424 : ex_ X d 218 424 [v0, v1, v2, v3] [.int y, .int x, w0, w1] h Q = ex_ X d 218 425 [v0, v1, v2, v3] [.int (x + y), w0, w1] h Q := ex_nx (show mx_at 218 424 = some (.iadd, 1) by decide +kernel) rfl
set_option maxRecDepth 20000 in
theorem i218_425 : ex_ X d 218 425 [v0, v1, v2, v3] [.int i, .ref a, w0] h Q = (ik_ h a i = true ∧ ex_ X d 218 426 [v0, v1, v2, v3] [.int (ia_ h a i), w0] h Q) := R_iald (show mx_at 218 425 = some (.iaload, 1) by decide +kernel)
set_option maxRecDepth 20000 in
theorem i218_425f : ex_ X d 218 425 [v0, v1, v2, v3] [.int i, .float 1, w0] h Q = (mx_in i X.1 = true ∧ ex_ X d 218 426 [v0, v1, v2, v3] [.int (X.2 i.toNatClampNeg), w0] h Q) := R_ialdx (show mx_at 218 425 = some (.iaload, 1) by decide +kernel) rfl
set_option maxRecDepth 20000 in
theorem i218_426 : ex_ X d 218 426 [.ref a, v1, v2, v3] [w0, w1] h Q = ex_ X d 218 427 [.ref a, v1, v2, v3] [.ref a, w0, w1] h Q := ex_nx (show mx_at 218 426 = some (.aload_n 0, 1) by decide +kernel) rfl
set_option maxRecDepth 20000 in
theorem i218_426f0 : ex_ X d 218 426 [.float 1, v1, v2, v3] [w0, w1] h Q = ex_ X d 218 427 [.float 1, v1, v2, v3] [.float 1, w0, w1] h Q := ex_nx (show mx_at 218 426 = some (.aload_n 0, 1) by decide +kernel) rfl
set_option maxRecDepth 20000 in
theorem i218_427 : ex_ X d 218 427 [v0, v1, v2, .int x] [w0, w1, w2] h Q = ex_ X d 218 428 [v0, v1, v2, .int x] [.int x, w0, w1, w2] h Q := ex_nx (show mx_at 218 427 = some (.iload_n 3, 1) by decide +kernel) rfl
set_option maxRecDepth 20000 in
theorem i218_428 : ex_ X d 218 428 [v0, v1, v2, v3] [w0, w1, w2, w3] h Q = ex_ X d 218 429 [v0, v1, v2, v3] [.int 2, w0, w1, w2, w3] h Q := R_iconst (show mx_at 218 428 = some (.iconst 2, 1) by decide +kernel) (by decide)
set_option maxRecDepth 20000 in
theorem i218_429 : ex_ X d 218 429 [v0, v1, v2, v3] [.int y, .int x, w0, w1, w2] h Q = ex_ X d 218 430 [v0, v1, v2, v3] [.int (x + y), w0, w1, w2] h Q := ex_nx (show mx_at 218 429 = some (.iadd, 1) by decide +kernel) rfl
set_option maxRecDepth 20000 in
theorem i218_430 : ex_ X d 218 430 [v0, v1, v2, v3] [.int i, .ref a, w0, w1] h Q = (ik_ h a i = true ∧ ex_ X d 218 431 [v0, v1, v2, v3] [.int (ia_ h a i), w0, w1] h Q) := R_iald (show mx_at 218 430 = some (.iaload, 1) by decide +kernel)
set_option maxRecDepth 20000 in
theorem i218_430f : ex_ X d 218 430 [v0, v1, v2, v3] [.int i, .float 1, w0, w1] h Q = (mx_in i X.1 = true ∧ ex_ X d 218 431 [v0, v1, v2, v3] [.int (X.2 i.toNatClampNeg), w0, w1] h Q) := R_ialdx (show mx_at 218 430 = some (.iaload, 1) by decide +kernel) rfl
set_option maxRecDepth 20000 in
theorem i218_431 (hc : co_ h a = some 11) : ex_ X (d + 1) 218 431 [v0, v1, v2, v3] [.int x1, .int x0, .ref a] h Q = ev_ X d 76 [.ref a, .int x0, .int x1] h (fun r h' => ex_ X (d + 1) 218 434 [v0, v1, v2, v3] (r.toList ++ []) h' Q) := R_vir (show mx_at 218 431 = some (.invokevirtual 39, 3) by decide +kernel) (mx_clk ow218 cc21_39) (Nat.le_of_ble_eq_true rfl) rfl rfl hc rfl (Nat.le_of_ble_eq_true rfl) (Nat.le_of_ble_eq_true rfl) (by rw [ml76]; exact Nat.le_of_ble_eq_true rfl)
set_option maxRecDepth 20000 in
theorem i218_434 : ex_ X d 218 434 [v0, v1, .ref a, v3] [w0] h Q = ex_ X d 218 435 [v0, v1, .ref a, v3] [.ref a, w0] h Q := ex_nx (show mx_at 218 434 = some (.aload_n 2, 1) by decide +kernel) rfl
set_option maxRecDepth 20000 in
theorem i218_434f0 : ex_ X d 218 434 [v0, v1, .float 1, v3] [w0] h Q = ex_ X d 218 435 [v0, v1, .float 1, v3] [.float 1, w0] h Q := ex_nx (show mx_at 218 434 = some (.aload_n 2, 1) by decide +kernel) rfl
set_option maxRecDepth 20000 in
theorem i218_435 : ex_ X d 218 435 [.ref a, v1, v2, v3] [w0, w1] h Q = ex_ X d 218 436 [.ref a, v1, v2, v3] [.ref a, w0, w1] h Q := ex_nx (show mx_at 218 435 = some (.aload_n 0, 1) by decide +kernel) rfl
set_option maxRecDepth 20000 in
theorem i218_435f0 : ex_ X d 218 435 [.float 1, v1, v2, v3] [w0, w1] h Q = ex_ X d 218 436 [.float 1, v1, v2, v3] [.float 1, w0, w1] h Q := ex_nx (show mx_at 218 435 = some (.aload_n 0, 1) by decide +kernel) rfl
set_option maxRecDepth 20000 in
theorem i218_436 : ex_ X d 218 436 [v0, v1, v2, .int x] [w0, w1, w2] h Q = ex_ X d 218 437 [v0, v1, v2, .int x] [.int x, w0, w1, w2] h Q := ex_nx (show mx_at 218 436 = some (.iload_n 3, 1) by decide +kernel) rfl
set_option maxRecDepth 20000 in
theorem i218_437 : ex_ X d 218 437 [v0, v1, v2, v3] [w0, w1, w2, w3] h Q = ex_ X d 218 438 [v0, v1, v2, v3] [.int 1, w0, w1, w2, w3] h Q := R_iconst (show mx_at 218 437 = some (.iconst 1, 1) by decide +kernel) (by decide)
set_option maxRecDepth 20000 in
theorem i218_438 : ex_ X d 218 438 [v0, v1, v2, v3] [.int y, .int x, w0, w1, w2] h Q = ex_ X d 218 439 [v0, v1, v2, v3] [.int (x + y), w0, w1, w2] h Q := ex_nx (show mx_at 218 438 = some (.iadd, 1) by decide +kernel) rfl
set_option maxRecDepth 20000 in
theorem i218_439 : ex_ X d 218 439 [v0, v1, v2, v3] [.int i, .ref a, w0, w1] h Q = (ik_ h a i = true ∧ ex_ X d 218 440 [v0, v1, v2, v3] [.int (ia_ h a i), w0, w1] h Q) := R_iald (show mx_at 218 439 = some (.iaload, 1) by decide +kernel)
set_option maxRecDepth 20000 in
theorem i218_439f : ex_ X d 218 439 [v0, v1, v2, v3] [.int i, .float 1, w0, w1] h Q = (mx_in i X.1 = true ∧ ex_ X d 218 440 [v0, v1, v2, v3] [.int (X.2 i.toNatClampNeg), w0, w1] h Q) := R_ialdx (show mx_at 218 439 = some (.iaload, 1) by decide +kernel) rfl
set_option maxRecDepth 20000 in
theorem i218_440 : ex_ X d 218 440 [.ref a, v1, v2, v3] [w0, w1, w2] h Q = ex_ X d 218 441 [.ref a, v1, v2, v3] [.ref a, w0, w1, w2] h Q := ex_nx (show mx_at 218 440 = some (.aload_n 0, 1) by decide +kernel) rfl
set_option maxRecDepth 20000 in
theorem i218_440f0 : ex_ X d 218 440 [.float 1, v1, v2, v3] [w0, w1, w2] h Q = ex_ X d 218 441 [.float 1, v1, v2, v3] [.float 1, w0, w1, w2] h Q := ex_nx (show mx_at 218 440 = some (.aload_n 0, 1) by decide +kernel) rfl
set_option maxRecDepth 20000 in
theorem i218_441 : ex_ X d 218 441 [v0, v1, v2, .int x] [w0, w1, w2, w3] h Q = ex_ X d 218 442 [v0, v1, v2, .int x] [.int x, w0, w1, w2, w3] h Q := ex_nx (show mx_at 218 441 = some (.iload_n 3, 1) by decide +kernel) rfl
set_option maxRecDepth 20000 in
theorem i218_442 : ex_ X d 218 442 [v0, v1, v2, v3] [w0, w1, w2, w3, w4] h Q = ex_ X d 218 443 [v0, v1, v2, v3] [.int 2, w0, w1, w2, w3, w4] h Q := R_iconst (show mx_at 218 442 = some (.iconst 2, 1) by decide +kernel) (by decide)
set_option maxRecDepth 20000 in
theorem i218_443 : ex_ X d 218 443 [v0, v1, v2, v3] [.int y, .int x, w0, w1, w2, w3] h Q = ex_ X d 218 444 [v0, v1, v2, v3] [.int (x + y), w0, w1, w2, w3] h Q := ex_nx (show mx_at 218 443 = some (.iadd, 1) by decide +kernel) rfl
set_option maxRecDepth 20000 in
theorem i218_444 : ex_ X d 218 444 [v0, v1, v2, v3] [.int i, .ref a, w0, w1, w2] h Q = (ik_ h a i = true ∧ ex_ X d 218 445 [v0, v1, v2, v3] [.int (ia_ h a i), w0, w1, w2] h Q) := R_iald (show mx_at 218 444 = some (.iaload, 1) by decide +kernel)
set_option maxRecDepth 20000 in
theorem i218_444f : ex_ X d 218 444 [v0, v1, v2, v3] [.int i, .float 1, w0, w1, w2] h Q = (mx_in i X.1 = true ∧ ex_ X d 218 445 [v0, v1, v2, v3] [.int (X.2 i.toNatClampNeg), w0, w1, w2] h Q) := R_ialdx (show mx_at 218 444 = some (.iaload, 1) by decide +kernel) rfl
set_option maxRecDepth 20000 in
theorem i218_445 (hc : co_ h a = some 12) : ex_ X (d + 1) 218 445 [v0, v1, v2, v3] [.int x1, .int x0, .ref a, w0] h Q = ev_ X d 164 [.ref a, .int x0, .int x1] h (fun r h' => ex_ X (d + 1) 218 448 [v0, v1, v2, v3] (r.toList ++ [w0]) h' Q) := R_vir (show mx_at 218 445 = some (.invokevirtual 42, 3) by decide +kernel) (mx_clk ow218 cc21_42) (Nat.le_of_ble_eq_true rfl) rfl rfl hc rfl (Nat.le_of_ble_eq_true rfl) (Nat.le_of_ble_eq_true rfl) (by rw [ml164]; exact Nat.le_of_ble_eq_true rfl)
set_option maxRecDepth 20000 in
theorem i218_448 : ex_ X d 218 448 [v0, v1, v2, v3] [.int y, .int x] h Q = if x = y then ex_ X d 218 1380 [v0, v1, v2, v3] [] h Q else ex_ X d 218 451 [v0, v1, v2, v3] [] h Q := (R_br (show mx_at 218 448 = some (.if_icmp .eq 932, 3) by decide +kernel) rfl rfl).trans mx_ite
set_option maxRecDepth 20000 in
theorem i218_451 : ex_ X d 218 451 [v0, v1, v2, v3] [] h Q = ex_ X d 218 452 [v0, v1, v2, v3] [.int 0] h Q := R_iconst (show mx_at 218 451 = some (.iconst 0, 1) by decide +kernel) (by decide)
set_option maxRecDepth 20000 in
theorem i218_452 (hx : x = 0 ∨ x = 1) : ex_ X d 218 452 [v0, v1, v2, v3] [.int x] h Q = Q (some (.int x)) h := ex_ret (show mx_at 218 452 = some (.ireturn, 1) by decide +kernel) (mx_retZ hx rt218)
set_option maxRecDepth 20000 in
theorem i218_453 : ex_ X d 218 453 [v0, .ref a, v2, v3] [] h Q = ex_ X d 218 454 [v0, .ref a, v2, v3] [.ref a] h Q := ex_nx (show mx_at 218 453 = some (.aload_n 1, 1) by decide +kernel) rfl
set_option maxRecDepth 20000 in
theorem i218_453f0 : ex_ X d 218 453 [v0, .float 1, v2, v3] [] h Q = ex_ X d 218 454 [v0, .float 1, v2, v3] [.float 1] h Q := ex_nx (show mx_at 218 453 = some (.aload_n 1, 1) by decide +kernel) rfl
set_option maxRecDepth 20000 in
theorem i218_454 : ex_ X d 218 454 [.ref a, v1, v2, v3] [w0] h Q = ex_ X d 218 455 [.ref a, v1, v2, v3] [.ref a, w0] h Q := ex_nx (show mx_at 218 454 = some (.aload_n 0, 1) by decide +kernel) rfl
set_option maxRecDepth 20000 in
theorem i218_454f0 : ex_ X d 218 454 [.float 1, v1, v2, v3] [w0] h Q = ex_ X d 218 455 [.float 1, v1, v2, v3] [.float 1, w0] h Q := ex_nx (show mx_at 218 454 = some (.aload_n 0, 1) by decide +kernel) rfl
set_option maxRecDepth 20000 in
theorem i218_455 : ex_ X d 218 455 [v0, v1, v2, .int x] [w0, w1] h Q = ex_ X d 218 456 [v0, v1, v2, .int x] [.int x, w0, w1] h Q := ex_nx (show mx_at 218 455 = some (.iload_n 3, 1) by decide +kernel) rfl
set_option maxRecDepth 20000 in
theorem i218_456 : ex_ X d 218 456 [v0, v1, v2, v3] [w0, w1, w2] h Q = ex_ X d 218 457 [v0, v1, v2, v3] [.int 1, w0, w1, w2] h Q := R_iconst (show mx_at 218 456 = some (.iconst 1, 1) by decide +kernel) (by decide)
set_option maxRecDepth 20000 in
theorem i218_457 : ex_ X d 218 457 [v0, v1, v2, v3] [.int y, .int x, w0, w1] h Q = ex_ X d 218 458 [v0, v1, v2, v3] [.int (x + y), w0, w1] h Q := ex_nx (show mx_at 218 457 = some (.iadd, 1) by decide +kernel) rfl
set_option maxRecDepth 20000 in
theorem i218_458 : ex_ X d 218 458 [v0, v1, v2, v3] [.int i, .ref a, w0] h Q = (ik_ h a i = true ∧ ex_ X d 218 459 [v0, v1, v2, v3] [.int (ia_ h a i), w0] h Q) := R_iald (show mx_at 218 458 = some (.iaload, 1) by decide +kernel)
set_option maxRecDepth 20000 in
theorem i218_458f : ex_ X d 218 458 [v0, v1, v2, v3] [.int i, .float 1, w0] h Q = (mx_in i X.1 = true ∧ ex_ X d 218 459 [v0, v1, v2, v3] [.int (X.2 i.toNatClampNeg), w0] h Q) := R_ialdx (show mx_at 218 458 = some (.iaload, 1) by decide +kernel) rfl
set_option maxRecDepth 20000 in
theorem i218_459 (hc : co_ h a = some 11) : ex_ X (d + 1) 218 459 [v0, v1, v2, v3] [.int x0, .ref a] h Q = ev_ X d 77 [.ref a, .int x0] h (fun r h' => ex_ X (d + 1) 218 462 [v0, v1, v2, v3] (r.toList ++ []) h' Q) := R_vir (show mx_at 218 459 = some (.invokevirtual 43, 3) by decide +kernel) (mx_clk ow218 cc21_43) (Nat.le_of_ble_eq_true rfl) rfl rfl hc rfl (Nat.le_of_ble_eq_true rfl) (Nat.le_of_ble_eq_true rfl) (by rw [ml77]; exact Nat.le_of_ble_eq_true rfl)
set_option maxRecDepth 20000 in
theorem i218_462 : ex_ X d 218 462 [v0, v1, .ref a, v3] [w0] h Q = ex_ X d 218 463 [v0, v1, .ref a, v3] [.ref a, w0] h Q := ex_nx (show mx_at 218 462 = some (.aload_n 2, 1) by decide +kernel) rfl
set_option maxRecDepth 20000 in
theorem i218_462f0 : ex_ X d 218 462 [v0, v1, .float 1, v3] [w0] h Q = ex_ X d 218 463 [v0, v1, .float 1, v3] [.float 1, w0] h Q := ex_nx (show mx_at 218 462 = some (.aload_n 2, 1) by decide +kernel) rfl
set_option maxRecDepth 20000 in
theorem i218_463 : ex_ X d 218 463 [.ref a, v1, v2, v3] [w0, w1] h Q = ex_ X d 218 464 [.ref a, v1, v2, v3] [.ref a, w0, w1] h Q := ex_nx (show mx_at 218 463 = some (.aload_n 0, 1) by decide +kernel) rfl
set_option maxRecDepth 20000 in
theorem i218_463f0 : ex_ X d 218 463 [.float 1, v1, v2, v3] [w0, w1] h Q = ex_ X d 218 464 [.float 1, v1, v2, v3] [.float 1, w0, w1] h Q := ex_nx (show mx_at 218 463 = some (.aload_n 0, 1) by decide +kernel) rfl
set_option maxRecDepth 20000 in
theorem i218_464 : ex_ X d 218 464 [v0, v1, v2, .int x] [w0, w1, w2] h Q = ex_ X d 218 465 [v0, v1, v2, .int x] [.int x, w0, w1, w2] h Q := ex_nx (show mx_at 218 464 = some (.iload_n 3, 1) by decide +kernel) rfl
set_option maxRecDepth 20000 in
theorem i218_465 : ex_ X d 218 465 [v0, v1, v2, v3] [w0, w1, w2, w3] h Q = ex_ X d 218 466 [v0, v1, v2, v3] [.int 1, w0, w1, w2, w3] h Q := R_iconst (show mx_at 218 465 = some (.iconst 1, 1) by decide +kernel) (by decide)
set_option maxRecDepth 20000 in
theorem i218_466 : ex_ X d 218 466 [v0, v1, v2, v3] [.int y, .int x, w0, w1, w2] h Q = ex_ X d 218 467 [v0, v1, v2, v3] [.int (x + y), w0, w1, w2] h Q := ex_nx (show mx_at 218 466 = some (.iadd, 1) by decide +kernel) rfl
set_option maxRecDepth 20000 in
theorem i218_467 : ex_ X d 218 467 [v0, v1, v2, v3] [.int i, .ref a, w0, w1] h Q = (ik_ h a i = true ∧ ex_ X d 218 468 [v0, v1, v2, v3] [.int (ia_ h a i), w0, w1] h Q) := R_iald (show mx_at 218 467 = some (.iaload, 1) by decide +kernel)
set_option maxRecDepth 20000 in
theorem i218_467f : ex_ X d 218 467 [v0, v1, v2, v3] [.int i, .float 1, w0, w1] h Q = (mx_in i X.1 = true ∧ ex_ X d 218 468 [v0, v1, v2, v3] [.int (X.2 i.toNatClampNeg), w0, w1] h Q) := R_ialdx (show mx_at 218 467 = some (.iaload, 1) by decide +kernel) rfl
set_option maxRecDepth 20000 in
theorem i218_468 (hc : co_ h a = some 12) : ex_ X (d + 1) 218 468 [v0, v1, v2, v3] [.int x0, .ref a, w0] h Q = ev_ X d 165 [.ref a, .int x0] h (fun r h' => ex_ X (d + 1) 218 471 [v0, v1, v2, v3] (r.toList ++ [w0]) h' Q) := R_vir (show mx_at 218 468 = some (.invokevirtual 47, 3) by decide +kernel) (mx_clk ow218 cc21_47) (Nat.le_of_ble_eq_true rfl) rfl rfl hc rfl (Nat.le_of_ble_eq_true rfl) (Nat.le_of_ble_eq_true rfl) (by rw [ml165]; exact Nat.le_of_ble_eq_true rfl)
set_option maxRecDepth 20000 in
theorem i218_471 : ex_ X d 218 471 [v0, v1, v2, v3] [.int y, .int x] h Q = if x = y then ex_ X d 218 1380 [v0, v1, v2, v3] [] h Q else ex_ X d 218 474 [v0, v1, v2, v3] [] h Q := (R_br (show mx_at 218 471 = some (.if_icmp .eq 909, 3) by decide +kernel) rfl rfl).trans mx_ite
set_option maxRecDepth 20000 in
theorem i218_474 : ex_ X d 218 474 [v0, v1, v2, v3] [] h Q = ex_ X d 218 475 [v0, v1, v2, v3] [.int 0] h Q := R_iconst (show mx_at 218 474 = some (.iconst 0, 1) by decide +kernel) (by decide)
set_option maxRecDepth 20000 in
theorem i218_475 (hx : x = 0 ∨ x = 1) : ex_ X d 218 475 [v0, v1, v2, v3] [.int x] h Q = Q (some (.int x)) h := ex_ret (show mx_at 218 475 = some (.ireturn, 1) by decide +kernel) (mx_retZ hx rt218)
set_option maxRecDepth 20000 in
theorem i218_476 : ex_ X d 218 476 [v0, .ref a, v2, v3] [] h Q = ex_ X d 218 477 [v0, .ref a, v2, v3] [.ref a] h Q := ex_nx (show mx_at 218 476 = some (.aload_n 1, 1) by decide +kernel) rfl
set_option maxRecDepth 20000 in
theorem i218_476f0 : ex_ X d 218 476 [v0, .float 1, v2, v3] [] h Q = ex_ X d 218 477 [v0, .float 1, v2, v3] [.float 1] h Q := ex_nx (show mx_at 218 476 = some (.aload_n 1, 1) by decide +kernel) rfl
set_option maxRecDepth 20000 in
theorem i218_477 : ex_ X d 218 477 [.ref a, v1, v2, v3] [w0] h Q = ex_ X d 218 478 [.ref a, v1, v2, v3] [.ref a, w0] h Q := ex_nx (show mx_at 218 477 = some (.aload_n 0, 1) by decide +kernel) rfl
set_option maxRecDepth 20000 in
theorem i218_477f0 : ex_ X d 218 477 [.float 1, v1, v2, v3] [w0] h Q = ex_ X d 218 478 [.float 1, v1, v2, v3] [.float 1, w0] h Q := ex_nx (show mx_at 218 477 = some (.aload_n 0, 1) by decide +kernel) rfl
set_option maxRecDepth 20000 in
theorem i218_478 : ex_ X d 218 478 [v0, v1, v2, .int x] [w0, w1] h Q = ex_ X d 218 479 [v0, v1, v2, .int x] [.int x, w0, w1] h Q := ex_nx (show mx_at 218 478 = some (.iload_n 3, 1) by decide +kernel) rfl
set_option maxRecDepth 20000 in
theorem i218_479 : ex_ X d 218 479 [v0, v1, v2, v3] [w0, w1, w2] h Q = ex_ X d 218 480 [v0, v1, v2, v3] [.int 1, w0, w1, w2] h Q := R_iconst (show mx_at 218 479 = some (.iconst 1, 1) by decide +kernel) (by decide)
set_option maxRecDepth 20000 in
theorem i218_480 : ex_ X d 218 480 [v0, v1, v2, v3] [.int y, .int x, w0, w1] h Q = ex_ X d 218 481 [v0, v1, v2, v3] [.int (x + y), w0, w1] h Q := ex_nx (show mx_at 218 480 = some (.iadd, 1) by decide +kernel) rfl
set_option maxRecDepth 20000 in
theorem i218_481 : ex_ X d 218 481 [v0, v1, v2, v3] [.int i, .ref a, w0] h Q = (ik_ h a i = true ∧ ex_ X d 218 482 [v0, v1, v2, v3] [.int (ia_ h a i), w0] h Q) := R_iald (show mx_at 218 481 = some (.iaload, 1) by decide +kernel)
set_option maxRecDepth 20000 in
theorem i218_481f : ex_ X d 218 481 [v0, v1, v2, v3] [.int i, .float 1, w0] h Q = (mx_in i X.1 = true ∧ ex_ X d 218 482 [v0, v1, v2, v3] [.int (X.2 i.toNatClampNeg), w0] h Q) := R_ialdx (show mx_at 218 481 = some (.iaload, 1) by decide +kernel) rfl
set_option maxRecDepth 20000 in
theorem i218_482 : ex_ X d 218 482 [.ref a, v1, v2, v3] [w0, w1] h Q = ex_ X d 218 483 [.ref a, v1, v2, v3] [.ref a, w0, w1] h Q := ex_nx (show mx_at 218 482 = some (.aload_n 0, 1) by decide +kernel) rfl
set_option maxRecDepth 20000 in
theorem i218_482f0 : ex_ X d 218 482 [.float 1, v1, v2, v3] [w0, w1] h Q = ex_ X d 218 483 [.float 1, v1, v2, v3] [.float 1, w0, w1] h Q := ex_nx (show mx_at 218 482 = some (.aload_n 0, 1) by decide +kernel) rfl
set_option maxRecDepth 20000 in
theorem i218_483 : ex_ X d 218 483 [v0, v1, v2, .int x] [w0, w1, w2] h Q = ex_ X d 218 484 [v0, v1, v2, .int x] [.int x, w0, w1, w2] h Q := ex_nx (show mx_at 218 483 = some (.iload_n 3, 1) by decide +kernel) rfl
set_option maxRecDepth 20000 in
theorem i218_484 : ex_ X d 218 484 [v0, v1, v2, v3] [w0, w1, w2, w3] h Q = ex_ X d 218 485 [v0, v1, v2, v3] [.int 2, w0, w1, w2, w3] h Q := R_iconst (show mx_at 218 484 = some (.iconst 2, 1) by decide +kernel) (by decide)
set_option maxRecDepth 20000 in
theorem i218_485 : ex_ X d 218 485 [v0, v1, v2, v3] [.int y, .int x, w0, w1, w2] h Q = ex_ X d 218 486 [v0, v1, v2, v3] [.int (x + y), w0, w1, w2] h Q := ex_nx (show mx_at 218 485 = some (.iadd, 1) by decide +kernel) rfl
set_option maxRecDepth 20000 in
theorem i218_486 : ex_ X d 218 486 [v0, v1, v2, v3] [.int i, .ref a, w0, w1] h Q = (ik_ h a i = true ∧ ex_ X d 218 487 [v0, v1, v2, v3] [.int (ia_ h a i), w0, w1] h Q) := R_iald (show mx_at 218 486 = some (.iaload, 1) by decide +kernel)
set_option maxRecDepth 20000 in
theorem i218_486f : ex_ X d 218 486 [v0, v1, v2, v3] [.int i, .float 1, w0, w1] h Q = (mx_in i X.1 = true ∧ ex_ X d 218 487 [v0, v1, v2, v3] [.int (X.2 i.toNatClampNeg), w0, w1] h Q) := R_ialdx (show mx_at 218 486 = some (.iaload, 1) by decide +kernel) rfl
set_option maxRecDepth 20000 in
theorem i218_487 (hc : co_ h a = some 11) : ex_ X (d + 1) 218 487 [v0, v1, v2, v3] [.int x1, .int x0, .ref a] h Q = ev_ X d 78 [.ref a, .int x0, .int x1] h (fun r h' => ex_ X (d + 1) 218 490 [v0, v1, v2, v3] (r.toList ++ []) h' Q) := R_vir (show mx_at 218 487 = some (.invokevirtual 48, 3) by decide +kernel) (mx_clk ow218 cc21_48) (Nat.le_of_ble_eq_true rfl) rfl rfl hc rfl (Nat.le_of_ble_eq_true rfl) (Nat.le_of_ble_eq_true rfl) (by rw [ml78]; exact Nat.le_of_ble_eq_true rfl)
set_option maxRecDepth 20000 in
theorem i218_490 : ex_ X d 218 490 [v0, v1, .ref a, v3] [w0] h Q = ex_ X d 218 491 [v0, v1, .ref a, v3] [.ref a, w0] h Q := ex_nx (show mx_at 218 490 = some (.aload_n 2, 1) by decide +kernel) rfl
set_option maxRecDepth 20000 in
theorem i218_490f0 : ex_ X d 218 490 [v0, v1, .float 1, v3] [w0] h Q = ex_ X d 218 491 [v0, v1, .float 1, v3] [.float 1, w0] h Q := ex_nx (show mx_at 218 490 = some (.aload_n 2, 1) by decide +kernel) rfl
set_option maxRecDepth 20000 in
theorem i218_491 : ex_ X d 218 491 [.ref a, v1, v2, v3] [w0, w1] h Q = ex_ X d 218 492 [.ref a, v1, v2, v3] [.ref a, w0, w1] h Q := ex_nx (show mx_at 218 491 = some (.aload_n 0, 1) by decide +kernel) rfl
set_option maxRecDepth 20000 in
theorem i218_491f0 : ex_ X d 218 491 [.float 1, v1, v2, v3] [w0, w1] h Q = ex_ X d 218 492 [.float 1, v1, v2, v3] [.float 1, w0, w1] h Q := ex_nx (show mx_at 218 491 = some (.aload_n 0, 1) by decide +kernel) rfl
set_option maxRecDepth 20000 in
theorem i218_492 : ex_ X d 218 492 [v0, v1, v2, .int x] [w0, w1, w2] h Q = ex_ X d 218 493 [v0, v1, v2, .int x] [.int x, w0, w1, w2] h Q := ex_nx (show mx_at 218 492 = some (.iload_n 3, 1) by decide +kernel) rfl
set_option maxRecDepth 20000 in
theorem i218_493 : ex_ X d 218 493 [v0, v1, v2, v3] [w0, w1, w2, w3] h Q = ex_ X d 218 494 [v0, v1, v2, v3] [.int 1, w0, w1, w2, w3] h Q := R_iconst (show mx_at 218 493 = some (.iconst 1, 1) by decide +kernel) (by decide)
set_option maxRecDepth 20000 in
theorem i218_494 : ex_ X d 218 494 [v0, v1, v2, v3] [.int y, .int x, w0, w1, w2] h Q = ex_ X d 218 495 [v0, v1, v2, v3] [.int (x + y), w0, w1, w2] h Q := ex_nx (show mx_at 218 494 = some (.iadd, 1) by decide +kernel) rfl
set_option maxRecDepth 20000 in
theorem i218_495 : ex_ X d 218 495 [v0, v1, v2, v3] [.int i, .ref a, w0, w1] h Q = (ik_ h a i = true ∧ ex_ X d 218 496 [v0, v1, v2, v3] [.int (ia_ h a i), w0, w1] h Q) := R_iald (show mx_at 218 495 = some (.iaload, 1) by decide +kernel)
set_option maxRecDepth 20000 in
theorem i218_495f : ex_ X d 218 495 [v0, v1, v2, v3] [.int i, .float 1, w0, w1] h Q = (mx_in i X.1 = true ∧ ex_ X d 218 496 [v0, v1, v2, v3] [.int (X.2 i.toNatClampNeg), w0, w1] h Q) := R_ialdx (show mx_at 218 495 = some (.iaload, 1) by decide +kernel) rfl
set_option maxRecDepth 20000 in
theorem i218_496 : ex_ X d 218 496 [.ref a, v1, v2, v3] [w0, w1, w2] h Q = ex_ X d 218 497 [.ref a, v1, v2, v3] [.ref a, w0, w1, w2] h Q := ex_nx (show mx_at 218 496 = some (.aload_n 0, 1) by decide +kernel) rfl
set_option maxRecDepth 20000 in
theorem i218_496f0 : ex_ X d 218 496 [.float 1, v1, v2, v3] [w0, w1, w2] h Q = ex_ X d 218 497 [.float 1, v1, v2, v3] [.float 1, w0, w1, w2] h Q := ex_nx (show mx_at 218 496 = some (.aload_n 0, 1) by decide +kernel) rfl
set_option maxRecDepth 20000 in
theorem i218_497 : ex_ X d 218 497 [v0, v1, v2, .int x] [w0, w1, w2, w3] h Q = ex_ X d 218 498 [v0, v1, v2, .int x] [.int x, w0, w1, w2, w3] h Q := ex_nx (show mx_at 218 497 = some (.iload_n 3, 1) by decide +kernel) rfl
set_option maxRecDepth 20000 in
theorem i218_498 : ex_ X d 218 498 [v0, v1, v2, v3] [w0, w1, w2, w3, w4] h Q = ex_ X d 218 499 [v0, v1, v2, v3] [.int 2, w0, w1, w2, w3, w4] h Q := R_iconst (show mx_at 218 498 = some (.iconst 2, 1) by decide +kernel) (by decide)
set_option maxRecDepth 20000 in
theorem i218_499 : ex_ X d 218 499 [v0, v1, v2, v3] [.int y, .int x, w0, w1, w2, w3] h Q = ex_ X d 218 500 [v0, v1, v2, v3] [.int (x + y), w0, w1, w2, w3] h Q := ex_nx (show mx_at 218 499 = some (.iadd, 1) by decide +kernel) rfl
set_option maxRecDepth 20000 in
theorem i218_500 : ex_ X d 218 500 [v0, v1, v2, v3] [.int i, .ref a, w0, w1, w2] h Q = (ik_ h a i = true ∧ ex_ X d 218 501 [v0, v1, v2, v3] [.int (ia_ h a i), w0, w1, w2] h Q) := R_iald (show mx_at 218 500 = some (.iaload, 1) by decide +kernel)
set_option maxRecDepth 20000 in
theorem i218_500f : ex_ X d 218 500 [v0, v1, v2, v3] [.int i, .float 1, w0, w1, w2] h Q = (mx_in i X.1 = true ∧ ex_ X d 218 501 [v0, v1, v2, v3] [.int (X.2 i.toNatClampNeg), w0, w1, w2] h Q) := R_ialdx (show mx_at 218 500 = some (.iaload, 1) by decide +kernel) rfl
set_option maxRecDepth 20000 in
theorem i218_501 (hc : co_ h a = some 12) : ex_ X (d + 1) 218 501 [v0, v1, v2, v3] [.int x1, .int x0, .ref a, w0] h Q = ev_ X d 166 [.ref a, .int x0, .int x1] h (fun r h' => ex_ X (d + 1) 218 504 [v0, v1, v2, v3] (r.toList ++ [w0]) h' Q) := R_vir (show mx_at 218 501 = some (.invokevirtual 51, 3) by decide +kernel) (mx_clk ow218 cc21_51) (Nat.le_of_ble_eq_true rfl) rfl rfl hc rfl (Nat.le_of_ble_eq_true rfl) (Nat.le_of_ble_eq_true rfl) (by rw [ml166]; exact Nat.le_of_ble_eq_true rfl)
set_option maxRecDepth 20000 in
theorem i218_504 : ex_ X d 218 504 [v0, v1, v2, v3] [.int y, .int x] h Q = if x = y then ex_ X d 218 1380 [v0, v1, v2, v3] [] h Q else ex_ X d 218 507 [v0, v1, v2, v3] [] h Q := (R_br (show mx_at 218 504 = some (.if_icmp .eq 876, 3) by decide +kernel) rfl rfl).trans mx_ite
set_option maxRecDepth 20000 in
theorem i218_507 : ex_ X d 218 507 [v0, v1, v2, v3] [] h Q = ex_ X d 218 508 [v0, v1, v2, v3] [.int 0] h Q := R_iconst (show mx_at 218 507 = some (.iconst 0, 1) by decide +kernel) (by decide)
set_option maxRecDepth 20000 in
theorem i218_508 (hx : x = 0 ∨ x = 1) : ex_ X d 218 508 [v0, v1, v2, v3] [.int x] h Q = Q (some (.int x)) h := ex_ret (show mx_at 218 508 = some (.ireturn, 1) by decide +kernel) (mx_retZ hx rt218)
set_option maxRecDepth 20000 in
theorem i218_509 : ex_ X d 218 509 [v0, .ref a, v2, v3] [] h Q = ex_ X d 218 510 [v0, .ref a, v2, v3] [.ref a] h Q := ex_nx (show mx_at 218 509 = some (.aload_n 1, 1) by decide +kernel) rfl
set_option maxRecDepth 20000 in
theorem i218_509f0 : ex_ X d 218 509 [v0, .float 1, v2, v3] [] h Q = ex_ X d 218 510 [v0, .float 1, v2, v3] [.float 1] h Q := ex_nx (show mx_at 218 509 = some (.aload_n 1, 1) by decide +kernel) rfl
set_option maxRecDepth 20000 in
theorem i218_510 : ex_ X d 218 510 [.ref a, v1, v2, v3] [w0] h Q = ex_ X d 218 511 [.ref a, v1, v2, v3] [.ref a, w0] h Q := ex_nx (show mx_at 218 510 = some (.aload_n 0, 1) by decide +kernel) rfl
set_option maxRecDepth 20000 in
theorem i218_510f0 : ex_ X d 218 510 [.float 1, v1, v2, v3] [w0] h Q = ex_ X d 218 511 [.float 1, v1, v2, v3] [.float 1, w0] h Q := ex_nx (show mx_at 218 510 = some (.aload_n 0, 1) by decide +kernel) rfl
set_option maxRecDepth 20000 in
theorem i218_511 : ex_ X d 218 511 [v0, v1, v2, .int x] [w0, w1] h Q = ex_ X d 218 512 [v0, v1, v2, .int x] [.int x, w0, w1] h Q := ex_nx (show mx_at 218 511 = some (.iload_n 3, 1) by decide +kernel) rfl
set_option maxRecDepth 20000 in
theorem i218_512 : ex_ X d 218 512 [v0, v1, v2, v3] [w0, w1, w2] h Q = ex_ X d 218 513 [v0, v1, v2, v3] [.int 1, w0, w1, w2] h Q := R_iconst (show mx_at 218 512 = some (.iconst 1, 1) by decide +kernel) (by decide)
set_option maxRecDepth 20000 in
theorem i218_513 : ex_ X d 218 513 [v0, v1, v2, v3] [.int y, .int x, w0, w1] h Q = ex_ X d 218 514 [v0, v1, v2, v3] [.int (x + y), w0, w1] h Q := ex_nx (show mx_at 218 513 = some (.iadd, 1) by decide +kernel) rfl
set_option maxRecDepth 20000 in
theorem i218_514 : ex_ X d 218 514 [v0, v1, v2, v3] [.int i, .ref a, w0] h Q = (ik_ h a i = true ∧ ex_ X d 218 515 [v0, v1, v2, v3] [.int (ia_ h a i), w0] h Q) := R_iald (show mx_at 218 514 = some (.iaload, 1) by decide +kernel)
set_option maxRecDepth 20000 in
theorem i218_514f : ex_ X d 218 514 [v0, v1, v2, v3] [.int i, .float 1, w0] h Q = (mx_in i X.1 = true ∧ ex_ X d 218 515 [v0, v1, v2, v3] [.int (X.2 i.toNatClampNeg), w0] h Q) := R_ialdx (show mx_at 218 514 = some (.iaload, 1) by decide +kernel) rfl
set_option maxRecDepth 20000 in
theorem i218_515 : ex_ X d 218 515 [v0, v1, v2, v3] [.int x, w0] h Q = ex_ X d 218 516 [v0, v1, v2, v3] [.long x.toInt64, w0] h Q := ex_nx (show mx_at 218 515 = some (.i2l, 1) by decide +kernel) rfl
set_option maxRecDepth 20000 in
theorem i218_516 : ex_ X d 218 516 [v0, v1, v2, v3] [w0, w1] h Q = ex_ X d 218 518 [v0, v1, v2, v3] [.int 32, w0, w1] h Q := R_bipush (show mx_at 218 516 = some (.bipush 32, 2) by decide +kernel) (by decide)
set_option maxRecDepth 20000 in
theorem i218_518 : ex_ X d 218 518 [v0, v1, v2, v3] [.int y, .long jx, w0] h Q = ex_ X d 218 519 [v0, v1, v2, v3] [.long (jx <<< (y.toInt64 &&& 63)), w0] h Q := ex_nx (show mx_at 218 518 = some (.lshl, 1) by decide +kernel) rfl
set_option maxRecDepth 20000 in
theorem i218_519 : ex_ X d 218 519 [.ref a, v1, v2, v3] [w0, w1] h Q = ex_ X d 218 520 [.ref a, v1, v2, v3] [.ref a, w0, w1] h Q := ex_nx (show mx_at 218 519 = some (.aload_n 0, 1) by decide +kernel) rfl
set_option maxRecDepth 20000 in
theorem i218_519f0 : ex_ X d 218 519 [.float 1, v1, v2, v3] [w0, w1] h Q = ex_ X d 218 520 [.float 1, v1, v2, v3] [.float 1, w0, w1] h Q := ex_nx (show mx_at 218 519 = some (.aload_n 0, 1) by decide +kernel) rfl
set_option maxRecDepth 20000 in
theorem i218_520 : ex_ X d 218 520 [v0, v1, v2, .int x] [w0, w1, w2] h Q = ex_ X d 218 521 [v0, v1, v2, .int x] [.int x, w0, w1, w2] h Q := ex_nx (show mx_at 218 520 = some (.iload_n 3, 1) by decide +kernel) rfl
set_option maxRecDepth 20000 in
theorem i218_521 : ex_ X d 218 521 [v0, v1, v2, v3] [w0, w1, w2, w3] h Q = ex_ X d 218 522 [v0, v1, v2, v3] [.int 2, w0, w1, w2, w3] h Q := R_iconst (show mx_at 218 521 = some (.iconst 2, 1) by decide +kernel) (by decide)
set_option maxRecDepth 20000 in
theorem i218_522 : ex_ X d 218 522 [v0, v1, v2, v3] [.int y, .int x, w0, w1, w2] h Q = ex_ X d 218 523 [v0, v1, v2, v3] [.int (x + y), w0, w1, w2] h Q := ex_nx (show mx_at 218 522 = some (.iadd, 1) by decide +kernel) rfl
set_option maxRecDepth 20000 in
theorem i218_523 : ex_ X d 218 523 [v0, v1, v2, v3] [.int i, .ref a, w0, w1] h Q = (ik_ h a i = true ∧ ex_ X d 218 524 [v0, v1, v2, v3] [.int (ia_ h a i), w0, w1] h Q) := R_iald (show mx_at 218 523 = some (.iaload, 1) by decide +kernel)
set_option maxRecDepth 20000 in
theorem i218_523f : ex_ X d 218 523 [v0, v1, v2, v3] [.int i, .float 1, w0, w1] h Q = (mx_in i X.1 = true ∧ ex_ X d 218 524 [v0, v1, v2, v3] [.int (X.2 i.toNatClampNeg), w0, w1] h Q) := R_ialdx (show mx_at 218 523 = some (.iaload, 1) by decide +kernel) rfl
set_option maxRecDepth 20000 in
theorem i218_524 : ex_ X d 218 524 [v0, v1, v2, v3] [.int x, w0, w1] h Q = ex_ X d 218 525 [v0, v1, v2, v3] [.long x.toInt64, w0, w1] h Q := ex_nx (show mx_at 218 524 = some (.i2l, 1) by decide +kernel) rfl
set_option maxRecDepth 20000 in
theorem i218_525 : ex_ X d 218 525 [v0, v1, v2, v3] [w0, w1, w2] h Q = ex_ X d 218 528 [v0, v1, v2, v3] [.long 4294967295, w0, w1, w2] h Q := R_ldc2 (show mx_at 218 525 = some (.ldc2_w 52, 3) by decide +kernel) ow218 kl210052
set_option maxRecDepth 20000 in
theorem i218_528 : ex_ X d 218 528 [v0, v1, v2, v3] [.long jy, .long jx, w0, w1] h Q = ex_ X d 218 529 [v0, v1, v2, v3] [.long (jx &&& jy), w0, w1] h Q := ex_nx (show mx_at 218 528 = some (.land, 1) by decide +kernel) rfl
set_option maxRecDepth 20000 in
theorem i218_529 : ex_ X d 218 529 [v0, v1, v2, v3] [.long jy, .long jx, w0] h Q = ex_ X d 218 530 [v0, v1, v2, v3] [.long (jx ||| jy), w0] h Q := ex_nx (show mx_at 218 529 = some (.lor, 1) by decide +kernel) rfl
set_option maxRecDepth 20000 in
theorem i218_530 : ex_ X d 218 530 [.ref a, v1, v2, v3] [w0, w1] h Q = ex_ X d 218 531 [.ref a, v1, v2, v3] [.ref a, w0, w1] h Q := ex_nx (show mx_at 218 530 = some (.aload_n 0, 1) by decide +kernel) rfl
set_option maxRecDepth 20000 in
theorem i218_530f0 : ex_ X d 218 530 [.float 1, v1, v2, v3] [w0, w1] h Q = ex_ X d 218 531 [.float 1, v1, v2, v3] [.float 1, w0, w1] h Q := ex_nx (show mx_at 218 530 = some (.aload_n 0, 1) by decide +kernel) rfl
set_option maxRecDepth 20000 in
theorem i218_531 : ex_ X d 218 531 [v0, v1, v2, .int x] [w0, w1, w2] h Q = ex_ X d 218 532 [v0, v1, v2, .int x] [.int x, w0, w1, w2] h Q := ex_nx (show mx_at 218 531 = some (.iload_n 3, 1) by decide +kernel) rfl
set_option maxRecDepth 20000 in
theorem i218_532 : ex_ X d 218 532 [v0, v1, v2, v3] [w0, w1, w2, w3] h Q = ex_ X d 218 533 [v0, v1, v2, v3] [.int 3, w0, w1, w2, w3] h Q := R_iconst (show mx_at 218 532 = some (.iconst 3, 1) by decide +kernel) (by decide)
set_option maxRecDepth 20000 in
theorem i218_533 : ex_ X d 218 533 [v0, v1, v2, v3] [.int y, .int x, w0, w1, w2] h Q = ex_ X d 218 534 [v0, v1, v2, v3] [.int (x + y), w0, w1, w2] h Q := ex_nx (show mx_at 218 533 = some (.iadd, 1) by decide +kernel) rfl
set_option maxRecDepth 20000 in
theorem i218_534 : ex_ X d 218 534 [v0, v1, v2, v3] [.int i, .ref a, w0, w1] h Q = (ik_ h a i = true ∧ ex_ X d 218 535 [v0, v1, v2, v3] [.int (ia_ h a i), w0, w1] h Q) := R_iald (show mx_at 218 534 = some (.iaload, 1) by decide +kernel)
set_option maxRecDepth 20000 in
theorem i218_534f : ex_ X d 218 534 [v0, v1, v2, v3] [.int i, .float 1, w0, w1] h Q = (mx_in i X.1 = true ∧ ex_ X d 218 535 [v0, v1, v2, v3] [.int (X.2 i.toNatClampNeg), w0, w1] h Q) := R_ialdx (show mx_at 218 534 = some (.iaload, 1) by decide +kernel) rfl
set_option maxRecDepth 20000 in
theorem i218_535 (hc : co_ h a = some 11) : ex_ X (d + 1) 218 535 [v0, v1, v2, v3] [.int x1, .long j0, .ref a] h Q = ev_ X d 79 [.ref a, .long j0, .int x1] h (fun r h' => ex_ X (d + 1) 218 538 [v0, v1, v2, v3] (r.toList ++ []) h' Q) := R_vir (show mx_at 218 535 = some (.invokevirtual 54, 3) by decide +kernel) (mx_clk ow218 cc21_54) (Nat.le_of_ble_eq_true rfl) rfl rfl hc rfl (Nat.le_of_ble_eq_true rfl) (Nat.le_of_ble_eq_true rfl) (by rw [ml79]; exact Nat.le_of_ble_eq_true rfl)
set_option maxRecDepth 20000 in
theorem i218_538 : ex_ X d 218 538 [v0, v1, .ref a, v3] [w0] h Q = ex_ X d 218 539 [v0, v1, .ref a, v3] [.ref a, w0] h Q := ex_nx (show mx_at 218 538 = some (.aload_n 2, 1) by decide +kernel) rfl
set_option maxRecDepth 20000 in
theorem i218_538f0 : ex_ X d 218 538 [v0, v1, .float 1, v3] [w0] h Q = ex_ X d 218 539 [v0, v1, .float 1, v3] [.float 1, w0] h Q := ex_nx (show mx_at 218 538 = some (.aload_n 2, 1) by decide +kernel) rfl
set_option maxRecDepth 20000 in
theorem i218_539 : ex_ X d 218 539 [.ref a, v1, v2, v3] [w0, w1] h Q = ex_ X d 218 540 [.ref a, v1, v2, v3] [.ref a, w0, w1] h Q := ex_nx (show mx_at 218 539 = some (.aload_n 0, 1) by decide +kernel) rfl
set_option maxRecDepth 20000 in
theorem i218_539f0 : ex_ X d 218 539 [.float 1, v1, v2, v3] [w0, w1] h Q = ex_ X d 218 540 [.float 1, v1, v2, v3] [.float 1, w0, w1] h Q := ex_nx (show mx_at 218 539 = some (.aload_n 0, 1) by decide +kernel) rfl
set_option maxRecDepth 20000 in
theorem i218_540 : ex_ X d 218 540 [v0, v1, v2, .int x] [w0, w1, w2] h Q = ex_ X d 218 541 [v0, v1, v2, .int x] [.int x, w0, w1, w2] h Q := ex_nx (show mx_at 218 540 = some (.iload_n 3, 1) by decide +kernel) rfl
set_option maxRecDepth 20000 in
theorem i218_541 : ex_ X d 218 541 [v0, v1, v2, v3] [w0, w1, w2, w3] h Q = ex_ X d 218 542 [v0, v1, v2, v3] [.int 1, w0, w1, w2, w3] h Q := R_iconst (show mx_at 218 541 = some (.iconst 1, 1) by decide +kernel) (by decide)
set_option maxRecDepth 20000 in
theorem i218_542 : ex_ X d 218 542 [v0, v1, v2, v3] [.int y, .int x, w0, w1, w2] h Q = ex_ X d 218 543 [v0, v1, v2, v3] [.int (x + y), w0, w1, w2] h Q := ex_nx (show mx_at 218 542 = some (.iadd, 1) by decide +kernel) rfl
set_option maxRecDepth 20000 in
theorem i218_543 : ex_ X d 218 543 [v0, v1, v2, v3] [.int i, .ref a, w0, w1] h Q = (ik_ h a i = true ∧ ex_ X d 218 544 [v0, v1, v2, v3] [.int (ia_ h a i), w0, w1] h Q) := R_iald (show mx_at 218 543 = some (.iaload, 1) by decide +kernel)
set_option maxRecDepth 20000 in
theorem i218_543f : ex_ X d 218 543 [v0, v1, v2, v3] [.int i, .float 1, w0, w1] h Q = (mx_in i X.1 = true ∧ ex_ X d 218 544 [v0, v1, v2, v3] [.int (X.2 i.toNatClampNeg), w0, w1] h Q) := R_ialdx (show mx_at 218 543 = some (.iaload, 1) by decide +kernel) rfl
set_option maxRecDepth 20000 in
theorem i218_544 : ex_ X d 218 544 [v0, v1, v2, v3] [.int x, w0, w1] h Q = ex_ X d 218 545 [v0, v1, v2, v3] [.long x.toInt64, w0, w1] h Q := ex_nx (show mx_at 218 544 = some (.i2l, 1) by decide +kernel) rfl
set_option maxRecDepth 20000 in
theorem i218_545 : ex_ X d 218 545 [v0, v1, v2, v3] [w0, w1, w2] h Q = ex_ X d 218 547 [v0, v1, v2, v3] [.int 32, w0, w1, w2] h Q := R_bipush (show mx_at 218 545 = some (.bipush 32, 2) by decide +kernel) (by decide)
set_option maxRecDepth 20000 in
theorem i218_547 : ex_ X d 218 547 [v0, v1, v2, v3] [.int y, .long jx, w0, w1] h Q = ex_ X d 218 548 [v0, v1, v2, v3] [.long (jx <<< (y.toInt64 &&& 63)), w0, w1] h Q := ex_nx (show mx_at 218 547 = some (.lshl, 1) by decide +kernel) rfl
set_option maxRecDepth 20000 in
theorem i218_548 : ex_ X d 218 548 [.ref a, v1, v2, v3] [w0, w1, w2] h Q = ex_ X d 218 549 [.ref a, v1, v2, v3] [.ref a, w0, w1, w2] h Q := ex_nx (show mx_at 218 548 = some (.aload_n 0, 1) by decide +kernel) rfl
set_option maxRecDepth 20000 in
theorem i218_548f0 : ex_ X d 218 548 [.float 1, v1, v2, v3] [w0, w1, w2] h Q = ex_ X d 218 549 [.float 1, v1, v2, v3] [.float 1, w0, w1, w2] h Q := ex_nx (show mx_at 218 548 = some (.aload_n 0, 1) by decide +kernel) rfl
set_option maxRecDepth 20000 in
theorem i218_549 : ex_ X d 218 549 [v0, v1, v2, .int x] [w0, w1, w2, w3] h Q = ex_ X d 218 550 [v0, v1, v2, .int x] [.int x, w0, w1, w2, w3] h Q := ex_nx (show mx_at 218 549 = some (.iload_n 3, 1) by decide +kernel) rfl
set_option maxRecDepth 20000 in
theorem i218_550 : ex_ X d 218 550 [v0, v1, v2, v3] [w0, w1, w2, w3, w4] h Q = ex_ X d 218 551 [v0, v1, v2, v3] [.int 2, w0, w1, w2, w3, w4] h Q := R_iconst (show mx_at 218 550 = some (.iconst 2, 1) by decide +kernel) (by decide)
set_option maxRecDepth 20000 in
theorem i218_551 : ex_ X d 218 551 [v0, v1, v2, v3] [.int y, .int x, w0, w1, w2, w3] h Q = ex_ X d 218 552 [v0, v1, v2, v3] [.int (x + y), w0, w1, w2, w3] h Q := ex_nx (show mx_at 218 551 = some (.iadd, 1) by decide +kernel) rfl
set_option maxRecDepth 20000 in
theorem i218_552 : ex_ X d 218 552 [v0, v1, v2, v3] [.int i, .ref a, w0, w1, w2] h Q = (ik_ h a i = true ∧ ex_ X d 218 553 [v0, v1, v2, v3] [.int (ia_ h a i), w0, w1, w2] h Q) := R_iald (show mx_at 218 552 = some (.iaload, 1) by decide +kernel)
set_option maxRecDepth 20000 in
theorem i218_552f : ex_ X d 218 552 [v0, v1, v2, v3] [.int i, .float 1, w0, w1, w2] h Q = (mx_in i X.1 = true ∧ ex_ X d 218 553 [v0, v1, v2, v3] [.int (X.2 i.toNatClampNeg), w0, w1, w2] h Q) := R_ialdx (show mx_at 218 552 = some (.iaload, 1) by decide +kernel) rfl
set_option maxRecDepth 20000 in
theorem i218_553 : ex_ X d 218 553 [v0, v1, v2, v3] [.int x, w0, w1, w2] h Q = ex_ X d 218 554 [v0, v1, v2, v3] [.long x.toInt64, w0, w1, w2] h Q := ex_nx (show mx_at 218 553 = some (.i2l, 1) by decide +kernel) rfl
set_option maxRecDepth 20000 in
theorem i218_554 : ex_ X d 218 554 [v0, v1, v2, v3] [w0, w1, w2, w3] h Q = ex_ X d 218 557 [v0, v1, v2, v3] [.long 4294967295, w0, w1, w2, w3] h Q := R_ldc2 (show mx_at 218 554 = some (.ldc2_w 52, 3) by decide +kernel) ow218 kl210052
set_option maxRecDepth 20000 in
theorem i218_557 : ex_ X d 218 557 [v0, v1, v2, v3] [.long jy, .long jx, w0, w1, w2] h Q = ex_ X d 218 558 [v0, v1, v2, v3] [.long (jx &&& jy), w0, w1, w2] h Q := ex_nx (show mx_at 218 557 = some (.land, 1) by decide +kernel) rfl
set_option maxRecDepth 20000 in
theorem i218_558 : ex_ X d 218 558 [v0, v1, v2, v3] [.long jy, .long jx, w0, w1] h Q = ex_ X d 218 559 [v0, v1, v2, v3] [.long (jx ||| jy), w0, w1] h Q := ex_nx (show mx_at 218 558 = some (.lor, 1) by decide +kernel) rfl
set_option maxRecDepth 20000 in
theorem i218_559 : ex_ X d 218 559 [.ref a, v1, v2, v3] [w0, w1, w2] h Q = ex_ X d 218 560 [.ref a, v1, v2, v3] [.ref a, w0, w1, w2] h Q := ex_nx (show mx_at 218 559 = some (.aload_n 0, 1) by decide +kernel) rfl
set_option maxRecDepth 20000 in
theorem i218_559f0 : ex_ X d 218 559 [.float 1, v1, v2, v3] [w0, w1, w2] h Q = ex_ X d 218 560 [.float 1, v1, v2, v3] [.float 1, w0, w1, w2] h Q := ex_nx (show mx_at 218 559 = some (.aload_n 0, 1) by decide +kernel) rfl
set_option maxRecDepth 20000 in
theorem i218_560 : ex_ X d 218 560 [v0, v1, v2, .int x] [w0, w1, w2, w3] h Q = ex_ X d 218 561 [v0, v1, v2, .int x] [.int x, w0, w1, w2, w3] h Q := ex_nx (show mx_at 218 560 = some (.iload_n 3, 1) by decide +kernel) rfl
set_option maxRecDepth 20000 in
theorem i218_561 : ex_ X d 218 561 [v0, v1, v2, v3] [w0, w1, w2, w3, w4] h Q = ex_ X d 218 562 [v0, v1, v2, v3] [.int 3, w0, w1, w2, w3, w4] h Q := R_iconst (show mx_at 218 561 = some (.iconst 3, 1) by decide +kernel) (by decide)
set_option maxRecDepth 20000 in
theorem i218_562 : ex_ X d 218 562 [v0, v1, v2, v3] [.int y, .int x, w0, w1, w2, w3] h Q = ex_ X d 218 563 [v0, v1, v2, v3] [.int (x + y), w0, w1, w2, w3] h Q := ex_nx (show mx_at 218 562 = some (.iadd, 1) by decide +kernel) rfl
set_option maxRecDepth 20000 in
theorem i218_563 : ex_ X d 218 563 [v0, v1, v2, v3] [.int i, .ref a, w0, w1, w2] h Q = (ik_ h a i = true ∧ ex_ X d 218 564 [v0, v1, v2, v3] [.int (ia_ h a i), w0, w1, w2] h Q) := R_iald (show mx_at 218 563 = some (.iaload, 1) by decide +kernel)
set_option maxRecDepth 20000 in
theorem i218_563f : ex_ X d 218 563 [v0, v1, v2, v3] [.int i, .float 1, w0, w1, w2] h Q = (mx_in i X.1 = true ∧ ex_ X d 218 564 [v0, v1, v2, v3] [.int (X.2 i.toNatClampNeg), w0, w1, w2] h Q) := R_ialdx (show mx_at 218 563 = some (.iaload, 1) by decide +kernel) rfl
set_option maxRecDepth 20000 in
theorem i218_564 (hc : co_ h a = some 12) : ex_ X (d + 1) 218 564 [v0, v1, v2, v3] [.int x1, .long j0, .ref a, w0] h Q = ev_ X d 146 [.ref a, .long j0, .int x1] h (fun r h' => ex_ X (d + 1) 218 567 [v0, v1, v2, v3] (r.toList ++ [w0]) h' Q) := R_vir (show mx_at 218 564 = some (.invokevirtual 58, 3) by decide +kernel) (mx_clk ow218 cc21_58) (Nat.le_of_ble_eq_true rfl) rfl rfl hc rfl (Nat.le_of_ble_eq_true rfl) (Nat.le_of_ble_eq_true rfl) (by rw [ml146]; exact Nat.le_of_ble_eq_true rfl)
set_option maxRecDepth 20000 in
theorem i218_567 : ex_ X d 218 567 [v0, v1, v2, v3] [.int y, .int x] h Q = if x = y then ex_ X d 218 1380 [v0, v1, v2, v3] [] h Q else ex_ X d 218 570 [v0, v1, v2, v3] [] h Q := (R_br (show mx_at 218 567 = some (.if_icmp .eq 813, 3) by decide +kernel) rfl rfl).trans mx_ite
set_option maxRecDepth 20000 in
theorem i218_570 : ex_ X d 218 570 [v0, v1, v2, v3] [] h Q = ex_ X d 218 571 [v0, v1, v2, v3] [.int 0] h Q := R_iconst (show mx_at 218 570 = some (.iconst 0, 1) by decide +kernel) (by decide)
set_option maxRecDepth 20000 in
theorem i218_571 (hx : x = 0 ∨ x = 1) : ex_ X d 218 571 [v0, v1, v2, v3] [.int x] h Q = Q (some (.int x)) h := ex_ret (show mx_at 218 571 = some (.ireturn, 1) by decide +kernel) (mx_retZ hx rt218)
set_option maxRecDepth 20000 in
theorem i218_572 : ex_ X d 218 572 [v0, .ref a, v2, v3] [] h Q = ex_ X d 218 573 [v0, .ref a, v2, v3] [.ref a] h Q := ex_nx (show mx_at 218 572 = some (.aload_n 1, 1) by decide +kernel) rfl
set_option maxRecDepth 20000 in
theorem i218_572f0 : ex_ X d 218 572 [v0, .float 1, v2, v3] [] h Q = ex_ X d 218 573 [v0, .float 1, v2, v3] [.float 1] h Q := ex_nx (show mx_at 218 572 = some (.aload_n 1, 1) by decide +kernel) rfl
set_option maxRecDepth 20000 in
theorem i218_573 : ex_ X d 218 573 [.ref a, v1, v2, v3] [w0] h Q = ex_ X d 218 574 [.ref a, v1, v2, v3] [.ref a, w0] h Q := ex_nx (show mx_at 218 573 = some (.aload_n 0, 1) by decide +kernel) rfl
set_option maxRecDepth 20000 in
theorem i218_573f0 : ex_ X d 218 573 [.float 1, v1, v2, v3] [w0] h Q = ex_ X d 218 574 [.float 1, v1, v2, v3] [.float 1, w0] h Q := ex_nx (show mx_at 218 573 = some (.aload_n 0, 1) by decide +kernel) rfl
set_option maxRecDepth 20000 in
theorem i218_574 : ex_ X d 218 574 [v0, v1, v2, .int x] [w0, w1] h Q = ex_ X d 218 575 [v0, v1, v2, .int x] [.int x, w0, w1] h Q := ex_nx (show mx_at 218 574 = some (.iload_n 3, 1) by decide +kernel) rfl
set_option maxRecDepth 20000 in
theorem i218_575 : ex_ X d 218 575 [v0, v1, v2, v3] [w0, w1, w2] h Q = ex_ X d 218 576 [v0, v1, v2, v3] [.int 1, w0, w1, w2] h Q := R_iconst (show mx_at 218 575 = some (.iconst 1, 1) by decide +kernel) (by decide)
set_option maxRecDepth 20000 in
theorem i218_576 : ex_ X d 218 576 [v0, v1, v2, v3] [.int y, .int x, w0, w1] h Q = ex_ X d 218 577 [v0, v1, v2, v3] [.int (x + y), w0, w1] h Q := ex_nx (show mx_at 218 576 = some (.iadd, 1) by decide +kernel) rfl
set_option maxRecDepth 20000 in
theorem i218_577 : ex_ X d 218 577 [v0, v1, v2, v3] [.int i, .ref a, w0] h Q = (ik_ h a i = true ∧ ex_ X d 218 578 [v0, v1, v2, v3] [.int (ia_ h a i), w0] h Q) := R_iald (show mx_at 218 577 = some (.iaload, 1) by decide +kernel)
set_option maxRecDepth 20000 in
theorem i218_577f : ex_ X d 218 577 [v0, v1, v2, v3] [.int i, .float 1, w0] h Q = (mx_in i X.1 = true ∧ ex_ X d 218 578 [v0, v1, v2, v3] [.int (X.2 i.toNatClampNeg), w0] h Q) := R_ialdx (show mx_at 218 577 = some (.iaload, 1) by decide +kernel) rfl
set_option maxRecDepth 20000 in
theorem i218_578 (hc : co_ h a = some 11) : ex_ X (d + 1) 218 578 [v0, v1, v2, v3] [.int x0, .ref a] h Q = ev_ X d 80 [.ref a, .int x0] h (fun r h' => ex_ X (d + 1) 218 581 [v0, v1, v2, v3] (r.toList ++ []) h' Q) := R_vir (show mx_at 218 578 = some (.invokevirtual 59, 3) by decide +kernel) (mx_clk ow218 cc21_59) (Nat.le_of_ble_eq_true rfl) rfl rfl hc rfl (Nat.le_of_ble_eq_true rfl) (Nat.le_of_ble_eq_true rfl) (by rw [ml80]; exact Nat.le_of_ble_eq_true rfl)
set_option maxRecDepth 20000 in
theorem i218_581 : ex_ X d 218 581 [v0, v1, .ref a, v3] [w0] h Q = ex_ X d 218 582 [v0, v1, .ref a, v3] [.ref a, w0] h Q := ex_nx (show mx_at 218 581 = some (.aload_n 2, 1) by decide +kernel) rfl
set_option maxRecDepth 20000 in
theorem i218_581f0 : ex_ X d 218 581 [v0, v1, .float 1, v3] [w0] h Q = ex_ X d 218 582 [v0, v1, .float 1, v3] [.float 1, w0] h Q := ex_nx (show mx_at 218 581 = some (.aload_n 2, 1) by decide +kernel) rfl
set_option maxRecDepth 20000 in
theorem i218_582 : ex_ X d 218 582 [.ref a, v1, v2, v3] [w0, w1] h Q = ex_ X d 218 583 [.ref a, v1, v2, v3] [.ref a, w0, w1] h Q := ex_nx (show mx_at 218 582 = some (.aload_n 0, 1) by decide +kernel) rfl
set_option maxRecDepth 20000 in
theorem i218_582f0 : ex_ X d 218 582 [.float 1, v1, v2, v3] [w0, w1] h Q = ex_ X d 218 583 [.float 1, v1, v2, v3] [.float 1, w0, w1] h Q := ex_nx (show mx_at 218 582 = some (.aload_n 0, 1) by decide +kernel) rfl
set_option maxRecDepth 20000 in
theorem i218_583 : ex_ X d 218 583 [v0, v1, v2, .int x] [w0, w1, w2] h Q = ex_ X d 218 584 [v0, v1, v2, .int x] [.int x, w0, w1, w2] h Q := ex_nx (show mx_at 218 583 = some (.iload_n 3, 1) by decide +kernel) rfl
set_option maxRecDepth 20000 in
theorem i218_584 : ex_ X d 218 584 [v0, v1, v2, v3] [w0, w1, w2, w3] h Q = ex_ X d 218 585 [v0, v1, v2, v3] [.int 1, w0, w1, w2, w3] h Q := R_iconst (show mx_at 218 584 = some (.iconst 1, 1) by decide +kernel) (by decide)
set_option maxRecDepth 20000 in
theorem i218_585 : ex_ X d 218 585 [v0, v1, v2, v3] [.int y, .int x, w0, w1, w2] h Q = ex_ X d 218 586 [v0, v1, v2, v3] [.int (x + y), w0, w1, w2] h Q := ex_nx (show mx_at 218 585 = some (.iadd, 1) by decide +kernel) rfl
set_option maxRecDepth 20000 in
theorem i218_586 : ex_ X d 218 586 [v0, v1, v2, v3] [.int i, .ref a, w0, w1] h Q = (ik_ h a i = true ∧ ex_ X d 218 587 [v0, v1, v2, v3] [.int (ia_ h a i), w0, w1] h Q) := R_iald (show mx_at 218 586 = some (.iaload, 1) by decide +kernel)
set_option maxRecDepth 20000 in
theorem i218_586f : ex_ X d 218 586 [v0, v1, v2, v3] [.int i, .float 1, w0, w1] h Q = (mx_in i X.1 = true ∧ ex_ X d 218 587 [v0, v1, v2, v3] [.int (X.2 i.toNatClampNeg), w0, w1] h Q) := R_ialdx (show mx_at 218 586 = some (.iaload, 1) by decide +kernel) rfl
set_option maxRecDepth 20000 in
theorem i218_587 (hc : co_ h a = some 12) : ex_ X (d + 1) 218 587 [v0, v1, v2, v3] [.int x0, .ref a, w0] h Q = ev_ X d 147 [.ref a, .int x0] h (fun r h' => ex_ X (d + 1) 218 590 [v0, v1, v2, v3] (r.toList ++ [w0]) h' Q) := R_vir (show mx_at 218 587 = some (.invokevirtual 62, 3) by decide +kernel) (mx_clk ow218 cc21_62) (Nat.le_of_ble_eq_true rfl) rfl rfl hc rfl (Nat.le_of_ble_eq_true rfl) (Nat.le_of_ble_eq_true rfl) (by rw [ml147]; exact Nat.le_of_ble_eq_true rfl)
set_option maxRecDepth 20000 in
theorem i218_590 : ex_ X d 218 590 [v0, v1, v2, v3] [.int y, .int x] h Q = if x = y then ex_ X d 218 1380 [v0, v1, v2, v3] [] h Q else ex_ X d 218 593 [v0, v1, v2, v3] [] h Q := (R_br (show mx_at 218 590 = some (.if_icmp .eq 790, 3) by decide +kernel) rfl rfl).trans mx_ite
set_option maxRecDepth 20000 in
theorem i218_593 : ex_ X d 218 593 [v0, v1, v2, v3] [] h Q = ex_ X d 218 594 [v0, v1, v2, v3] [.int 0] h Q := R_iconst (show mx_at 218 593 = some (.iconst 0, 1) by decide +kernel) (by decide)
set_option maxRecDepth 20000 in
theorem i218_594 (hx : x = 0 ∨ x = 1) : ex_ X d 218 594 [v0, v1, v2, v3] [.int x] h Q = Q (some (.int x)) h := ex_ret (show mx_at 218 594 = some (.ireturn, 1) by decide +kernel) (mx_retZ hx rt218)
set_option maxRecDepth 20000 in
theorem i218_595 : ex_ X d 218 595 [v0, .ref a, v2, v3] [] h Q = ex_ X d 218 596 [v0, .ref a, v2, v3] [.ref a] h Q := ex_nx (show mx_at 218 595 = some (.aload_n 1, 1) by decide +kernel) rfl
set_option maxRecDepth 20000 in
theorem i218_595f0 : ex_ X d 218 595 [v0, .float 1, v2, v3] [] h Q = ex_ X d 218 596 [v0, .float 1, v2, v3] [.float 1] h Q := ex_nx (show mx_at 218 595 = some (.aload_n 1, 1) by decide +kernel) rfl
set_option maxRecDepth 20000 in
theorem i218_596 : ex_ X d 218 596 [.ref a, v1, v2, v3] [w0] h Q = ex_ X d 218 597 [.ref a, v1, v2, v3] [.ref a, w0] h Q := ex_nx (show mx_at 218 596 = some (.aload_n 0, 1) by decide +kernel) rfl
set_option maxRecDepth 20000 in
theorem i218_596f0 : ex_ X d 218 596 [.float 1, v1, v2, v3] [w0] h Q = ex_ X d 218 597 [.float 1, v1, v2, v3] [.float 1, w0] h Q := ex_nx (show mx_at 218 596 = some (.aload_n 0, 1) by decide +kernel) rfl
set_option maxRecDepth 20000 in
theorem i218_597 : ex_ X d 218 597 [v0, v1, v2, .int x] [w0, w1] h Q = ex_ X d 218 598 [v0, v1, v2, .int x] [.int x, w0, w1] h Q := ex_nx (show mx_at 218 597 = some (.iload_n 3, 1) by decide +kernel) rfl
set_option maxRecDepth 20000 in
theorem i218_598 : ex_ X d 218 598 [v0, v1, v2, v3] [w0, w1, w2] h Q = ex_ X d 218 599 [v0, v1, v2, v3] [.int 1, w0, w1, w2] h Q := R_iconst (show mx_at 218 598 = some (.iconst 1, 1) by decide +kernel) (by decide)
set_option maxRecDepth 20000 in
theorem i218_599 : ex_ X d 218 599 [v0, v1, v2, v3] [.int y, .int x, w0, w1] h Q = ex_ X d 218 600 [v0, v1, v2, v3] [.int (x + y), w0, w1] h Q := ex_nx (show mx_at 218 599 = some (.iadd, 1) by decide +kernel) rfl
set_option maxRecDepth 20000 in
theorem i218_600 : ex_ X d 218 600 [v0, v1, v2, v3] [.int i, .ref a, w0] h Q = (ik_ h a i = true ∧ ex_ X d 218 601 [v0, v1, v2, v3] [.int (ia_ h a i), w0] h Q) := R_iald (show mx_at 218 600 = some (.iaload, 1) by decide +kernel)
set_option maxRecDepth 20000 in
theorem i218_600f : ex_ X d 218 600 [v0, v1, v2, v3] [.int i, .float 1, w0] h Q = (mx_in i X.1 = true ∧ ex_ X d 218 601 [v0, v1, v2, v3] [.int (X.2 i.toNatClampNeg), w0] h Q) := R_ialdx (show mx_at 218 600 = some (.iaload, 1) by decide +kernel) rfl
set_option maxRecDepth 20000 in
theorem i218_601 : ex_ X d 218 601 [.ref a, v1, v2, v3] [w0, w1] h Q = ex_ X d 218 602 [.ref a, v1, v2, v3] [.ref a, w0, w1] h Q := ex_nx (show mx_at 218 601 = some (.aload_n 0, 1) by decide +kernel) rfl
set_option maxRecDepth 20000 in
theorem i218_601f0 : ex_ X d 218 601 [.float 1, v1, v2, v3] [w0, w1] h Q = ex_ X d 218 602 [.float 1, v1, v2, v3] [.float 1, w0, w1] h Q := ex_nx (show mx_at 218 601 = some (.aload_n 0, 1) by decide +kernel) rfl
set_option maxRecDepth 20000 in
theorem i218_602 : ex_ X d 218 602 [v0, v1, v2, .int x] [w0, w1, w2] h Q = ex_ X d 218 603 [v0, v1, v2, .int x] [.int x, w0, w1, w2] h Q := ex_nx (show mx_at 218 602 = some (.iload_n 3, 1) by decide +kernel) rfl
set_option maxRecDepth 20000 in
theorem i218_603 : ex_ X d 218 603 [v0, v1, v2, v3] [w0, w1, w2, w3] h Q = ex_ X d 218 604 [v0, v1, v2, v3] [.int 2, w0, w1, w2, w3] h Q := R_iconst (show mx_at 218 603 = some (.iconst 2, 1) by decide +kernel) (by decide)
set_option maxRecDepth 20000 in
theorem i218_604 : ex_ X d 218 604 [v0, v1, v2, v3] [.int y, .int x, w0, w1, w2] h Q = ex_ X d 218 605 [v0, v1, v2, v3] [.int (x + y), w0, w1, w2] h Q := ex_nx (show mx_at 218 604 = some (.iadd, 1) by decide +kernel) rfl
set_option maxRecDepth 20000 in
theorem i218_605 : ex_ X d 218 605 [v0, v1, v2, v3] [.int i, .ref a, w0, w1] h Q = (ik_ h a i = true ∧ ex_ X d 218 606 [v0, v1, v2, v3] [.int (ia_ h a i), w0, w1] h Q) := R_iald (show mx_at 218 605 = some (.iaload, 1) by decide +kernel)
set_option maxRecDepth 20000 in
theorem i218_605f : ex_ X d 218 605 [v0, v1, v2, v3] [.int i, .float 1, w0, w1] h Q = (mx_in i X.1 = true ∧ ex_ X d 218 606 [v0, v1, v2, v3] [.int (X.2 i.toNatClampNeg), w0, w1] h Q) := R_ialdx (show mx_at 218 605 = some (.iaload, 1) by decide +kernel) rfl
set_option maxRecDepth 20000 in
theorem i218_606 : ex_ X d 218 606 [.ref a, v1, v2, v3] [w0, w1, w2] h Q = ex_ X d 218 607 [.ref a, v1, v2, v3] [.ref a, w0, w1, w2] h Q := ex_nx (show mx_at 218 606 = some (.aload_n 0, 1) by decide +kernel) rfl
set_option maxRecDepth 20000 in
theorem i218_606f0 : ex_ X d 218 606 [.float 1, v1, v2, v3] [w0, w1, w2] h Q = ex_ X d 218 607 [.float 1, v1, v2, v3] [.float 1, w0, w1, w2] h Q := ex_nx (show mx_at 218 606 = some (.aload_n 0, 1) by decide +kernel) rfl
set_option maxRecDepth 20000 in
theorem i218_607 : ex_ X d 218 607 [v0, v1, v2, .int x] [w0, w1, w2, w3] h Q = ex_ X d 218 608 [v0, v1, v2, .int x] [.int x, w0, w1, w2, w3] h Q := ex_nx (show mx_at 218 607 = some (.iload_n 3, 1) by decide +kernel) rfl
set_option maxRecDepth 20000 in
theorem i218_608 : ex_ X d 218 608 [v0, v1, v2, v3] [w0, w1, w2, w3, w4] h Q = ex_ X d 218 609 [v0, v1, v2, v3] [.int 3, w0, w1, w2, w3, w4] h Q := R_iconst (show mx_at 218 608 = some (.iconst 3, 1) by decide +kernel) (by decide)
set_option maxRecDepth 20000 in
theorem i218_609 : ex_ X d 218 609 [v0, v1, v2, v3] [.int y, .int x, w0, w1, w2, w3] h Q = ex_ X d 218 610 [v0, v1, v2, v3] [.int (x + y), w0, w1, w2, w3] h Q := ex_nx (show mx_at 218 609 = some (.iadd, 1) by decide +kernel) rfl
set_option maxRecDepth 20000 in
theorem i218_610 : ex_ X d 218 610 [v0, v1, v2, v3] [.int i, .ref a, w0, w1, w2] h Q = (ik_ h a i = true ∧ ex_ X d 218 611 [v0, v1, v2, v3] [.int (ia_ h a i), w0, w1, w2] h Q) := R_iald (show mx_at 218 610 = some (.iaload, 1) by decide +kernel)
set_option maxRecDepth 20000 in
theorem i218_610f : ex_ X d 218 610 [v0, v1, v2, v3] [.int i, .float 1, w0, w1, w2] h Q = (mx_in i X.1 = true ∧ ex_ X d 218 611 [v0, v1, v2, v3] [.int (X.2 i.toNatClampNeg), w0, w1, w2] h Q) := R_ialdx (show mx_at 218 610 = some (.iaload, 1) by decide +kernel) rfl
set_option maxRecDepth 20000 in
theorem i218_611 : ex_ X d 218 611 [.ref a, v1, v2, v3] [w0, w1, w2, w3] h Q = ex_ X d 218 612 [.ref a, v1, v2, v3] [.ref a, w0, w1, w2, w3] h Q := ex_nx (show mx_at 218 611 = some (.aload_n 0, 1) by decide +kernel) rfl
set_option maxRecDepth 20000 in
theorem i218_611f0 : ex_ X d 218 611 [.float 1, v1, v2, v3] [w0, w1, w2, w3] h Q = ex_ X d 218 612 [.float 1, v1, v2, v3] [.float 1, w0, w1, w2, w3] h Q := ex_nx (show mx_at 218 611 = some (.aload_n 0, 1) by decide +kernel) rfl
set_option maxRecDepth 20000 in
theorem i218_612 : ex_ X d 218 612 [v0, v1, v2, .int x] [w0, w1, w2, w3, w4] h Q = ex_ X d 218 613 [v0, v1, v2, .int x] [.int x, w0, w1, w2, w3, w4] h Q := ex_nx (show mx_at 218 612 = some (.iload_n 3, 1) by decide +kernel) rfl
set_option maxRecDepth 20000 in
theorem i218_613 : ex_ X d 218 613 [v0, v1, v2, v3] [w0, w1, w2, w3, w4, w5] h Q = ex_ X d 218 614 [v0, v1, v2, v3] [.int 4, w0, w1, w2, w3, w4, w5] h Q := R_iconst (show mx_at 218 613 = some (.iconst 4, 1) by decide +kernel) (by decide)
set_option maxRecDepth 20000 in
theorem i218_614 : ex_ X d 218 614 [v0, v1, v2, v3] [.int y, .int x, w0, w1, w2, w3, w4] h Q = ex_ X d 218 615 [v0, v1, v2, v3] [.int (x + y), w0, w1, w2, w3, w4] h Q := ex_nx (show mx_at 218 614 = some (.iadd, 1) by decide +kernel) rfl
set_option maxRecDepth 20000 in
theorem i218_615 : ex_ X d 218 615 [v0, v1, v2, v3] [.int i, .ref a, w0, w1, w2, w3] h Q = (ik_ h a i = true ∧ ex_ X d 218 616 [v0, v1, v2, v3] [.int (ia_ h a i), w0, w1, w2, w3] h Q) := R_iald (show mx_at 218 615 = some (.iaload, 1) by decide +kernel)
set_option maxRecDepth 20000 in
theorem i218_615f : ex_ X d 218 615 [v0, v1, v2, v3] [.int i, .float 1, w0, w1, w2, w3] h Q = (mx_in i X.1 = true ∧ ex_ X d 218 616 [v0, v1, v2, v3] [.int (X.2 i.toNatClampNeg), w0, w1, w2, w3] h Q) := R_ialdx (show mx_at 218 615 = some (.iaload, 1) by decide +kernel) rfl
set_option maxRecDepth 20000 in
theorem i218_616 : ex_ X d 218 616 [.ref a, v1, v2, v3] [w0, w1, w2, w3, w4] h Q = ex_ X d 218 617 [.ref a, v1, v2, v3] [.ref a, w0, w1, w2, w3, w4] h Q := ex_nx (show mx_at 218 616 = some (.aload_n 0, 1) by decide +kernel) rfl
set_option maxRecDepth 20000 in
theorem i218_616f0 : ex_ X d 218 616 [.float 1, v1, v2, v3] [w0, w1, w2, w3, w4] h Q = ex_ X d 218 617 [.float 1, v1, v2, v3] [.float 1, w0, w1, w2, w3, w4] h Q := ex_nx (show mx_at 218 616 = some (.aload_n 0, 1) by decide +kernel) rfl
set_option maxRecDepth 20000 in
theorem i218_617 : ex_ X d 218 617 [v0, v1, v2, .int x] [w0, w1, w2, w3, w4, w5] h Q = ex_ X d 218 618 [v0, v1, v2, .int x] [.int x, w0, w1, w2, w3, w4, w5] h Q := ex_nx (show mx_at 218 617 = some (.iload_n 3, 1) by decide +kernel) rfl
set_option maxRecDepth 20000 in
theorem i218_618 : ex_ X d 218 618 [v0, v1, v2, v3] [w0, w1, w2, w3, w4, w5, w6] h Q = ex_ X d 218 619 [v0, v1, v2, v3] [.int 5, w0, w1, w2, w3, w4, w5, w6] h Q := R_iconst (show mx_at 218 618 = some (.iconst 5, 1) by decide +kernel) (by decide)
set_option maxRecDepth 20000 in
theorem i218_619 : ex_ X d 218 619 [v0, v1, v2, v3] [.int y, .int x, w0, w1, w2, w3, w4, w5] h Q = ex_ X d 218 620 [v0, v1, v2, v3] [.int (x + y), w0, w1, w2, w3, w4, w5] h Q := ex_nx (show mx_at 218 619 = some (.iadd, 1) by decide +kernel) rfl
set_option maxRecDepth 20000 in
theorem i218_620 : ex_ X d 218 620 [v0, v1, v2, v3] [.int i, .ref a, w0, w1, w2, w3, w4] h Q = (ik_ h a i = true ∧ ex_ X d 218 621 [v0, v1, v2, v3] [.int (ia_ h a i), w0, w1, w2, w3, w4] h Q) := R_iald (show mx_at 218 620 = some (.iaload, 1) by decide +kernel)
set_option maxRecDepth 20000 in
theorem i218_620f : ex_ X d 218 620 [v0, v1, v2, v3] [.int i, .float 1, w0, w1, w2, w3, w4] h Q = (mx_in i X.1 = true ∧ ex_ X d 218 621 [v0, v1, v2, v3] [.int (X.2 i.toNatClampNeg), w0, w1, w2, w3, w4] h Q) := R_ialdx (show mx_at 218 620 = some (.iaload, 1) by decide +kernel) rfl
set_option maxRecDepth 20000 in
theorem i218_621 (hc : co_ h a = some 11) : ex_ X (d + 1) 218 621 [v0, v1, v2, v3] [.int x4, .int x3, .int x2, .int x1, .int x0, .ref a] h Q = ev_ X d 81 [.ref a, .int x0, .int x1, .int x2, .int x3, .int x4] h (fun r h' => ex_ X (d + 1) 218 624 [v0, v1, v2, v3] (r.toList ++ []) h' Q) := R_vir (show mx_at 218 621 = some (.invokevirtual 63, 3) by decide +kernel) (mx_clk ow218 cc21_63) (Nat.le_of_ble_eq_true rfl) rfl rfl hc rfl (Nat.le_of_ble_eq_true rfl) (Nat.le_of_ble_eq_true rfl) (by rw [ml81]; exact Nat.le_of_ble_eq_true rfl)
set_option maxRecDepth 20000 in
theorem i218_624 : ex_ X d 218 624 [v0, v1, .ref a, v3] [w0] h Q = ex_ X d 218 625 [v0, v1, .ref a, v3] [.ref a, w0] h Q := ex_nx (show mx_at 218 624 = some (.aload_n 2, 1) by decide +kernel) rfl
set_option maxRecDepth 20000 in
theorem i218_624f0 : ex_ X d 218 624 [v0, v1, .float 1, v3] [w0] h Q = ex_ X d 218 625 [v0, v1, .float 1, v3] [.float 1, w0] h Q := ex_nx (show mx_at 218 624 = some (.aload_n 2, 1) by decide +kernel) rfl
set_option maxRecDepth 20000 in
theorem i218_625 : ex_ X d 218 625 [.ref a, v1, v2, v3] [w0, w1] h Q = ex_ X d 218 626 [.ref a, v1, v2, v3] [.ref a, w0, w1] h Q := ex_nx (show mx_at 218 625 = some (.aload_n 0, 1) by decide +kernel) rfl
set_option maxRecDepth 20000 in
theorem i218_625f0 : ex_ X d 218 625 [.float 1, v1, v2, v3] [w0, w1] h Q = ex_ X d 218 626 [.float 1, v1, v2, v3] [.float 1, w0, w1] h Q := ex_nx (show mx_at 218 625 = some (.aload_n 0, 1) by decide +kernel) rfl
set_option maxRecDepth 20000 in
theorem i218_626 : ex_ X d 218 626 [v0, v1, v2, .int x] [w0, w1, w2] h Q = ex_ X d 218 627 [v0, v1, v2, .int x] [.int x, w0, w1, w2] h Q := ex_nx (show mx_at 218 626 = some (.iload_n 3, 1) by decide +kernel) rfl
set_option maxRecDepth 20000 in
theorem i218_627 : ex_ X d 218 627 [v0, v1, v2, v3] [w0, w1, w2, w3] h Q = ex_ X d 218 628 [v0, v1, v2, v3] [.int 1, w0, w1, w2, w3] h Q := R_iconst (show mx_at 218 627 = some (.iconst 1, 1) by decide +kernel) (by decide)
set_option maxRecDepth 20000 in
theorem i218_628 : ex_ X d 218 628 [v0, v1, v2, v3] [.int y, .int x, w0, w1, w2] h Q = ex_ X d 218 629 [v0, v1, v2, v3] [.int (x + y), w0, w1, w2] h Q := ex_nx (show mx_at 218 628 = some (.iadd, 1) by decide +kernel) rfl
set_option maxRecDepth 20000 in
theorem i218_629 : ex_ X d 218 629 [v0, v1, v2, v3] [.int i, .ref a, w0, w1] h Q = (ik_ h a i = true ∧ ex_ X d 218 630 [v0, v1, v2, v3] [.int (ia_ h a i), w0, w1] h Q) := R_iald (show mx_at 218 629 = some (.iaload, 1) by decide +kernel)
set_option maxRecDepth 20000 in
theorem i218_629f : ex_ X d 218 629 [v0, v1, v2, v3] [.int i, .float 1, w0, w1] h Q = (mx_in i X.1 = true ∧ ex_ X d 218 630 [v0, v1, v2, v3] [.int (X.2 i.toNatClampNeg), w0, w1] h Q) := R_ialdx (show mx_at 218 629 = some (.iaload, 1) by decide +kernel) rfl
set_option maxRecDepth 20000 in
theorem i218_630 : ex_ X d 218 630 [.ref a, v1, v2, v3] [w0, w1, w2] h Q = ex_ X d 218 631 [.ref a, v1, v2, v3] [.ref a, w0, w1, w2] h Q := ex_nx (show mx_at 218 630 = some (.aload_n 0, 1) by decide +kernel) rfl
set_option maxRecDepth 20000 in
theorem i218_630f0 : ex_ X d 218 630 [.float 1, v1, v2, v3] [w0, w1, w2] h Q = ex_ X d 218 631 [.float 1, v1, v2, v3] [.float 1, w0, w1, w2] h Q := ex_nx (show mx_at 218 630 = some (.aload_n 0, 1) by decide +kernel) rfl
set_option maxRecDepth 20000 in
theorem i218_631 : ex_ X d 218 631 [v0, v1, v2, .int x] [w0, w1, w2, w3] h Q = ex_ X d 218 632 [v0, v1, v2, .int x] [.int x, w0, w1, w2, w3] h Q := ex_nx (show mx_at 218 631 = some (.iload_n 3, 1) by decide +kernel) rfl
set_option maxRecDepth 20000 in
theorem i218_632 : ex_ X d 218 632 [v0, v1, v2, v3] [w0, w1, w2, w3, w4] h Q = ex_ X d 218 633 [v0, v1, v2, v3] [.int 2, w0, w1, w2, w3, w4] h Q := R_iconst (show mx_at 218 632 = some (.iconst 2, 1) by decide +kernel) (by decide)
set_option maxRecDepth 20000 in
theorem i218_633 : ex_ X d 218 633 [v0, v1, v2, v3] [.int y, .int x, w0, w1, w2, w3] h Q = ex_ X d 218 634 [v0, v1, v2, v3] [.int (x + y), w0, w1, w2, w3] h Q := ex_nx (show mx_at 218 633 = some (.iadd, 1) by decide +kernel) rfl
set_option maxRecDepth 20000 in
theorem i218_634 : ex_ X d 218 634 [v0, v1, v2, v3] [.int i, .ref a, w0, w1, w2] h Q = (ik_ h a i = true ∧ ex_ X d 218 635 [v0, v1, v2, v3] [.int (ia_ h a i), w0, w1, w2] h Q) := R_iald (show mx_at 218 634 = some (.iaload, 1) by decide +kernel)
set_option maxRecDepth 20000 in
theorem i218_634f : ex_ X d 218 634 [v0, v1, v2, v3] [.int i, .float 1, w0, w1, w2] h Q = (mx_in i X.1 = true ∧ ex_ X d 218 635 [v0, v1, v2, v3] [.int (X.2 i.toNatClampNeg), w0, w1, w2] h Q) := R_ialdx (show mx_at 218 634 = some (.iaload, 1) by decide +kernel) rfl
set_option maxRecDepth 20000 in
theorem i218_635 : ex_ X d 218 635 [.ref a, v1, v2, v3] [w0, w1, w2, w3] h Q = ex_ X d 218 636 [.ref a, v1, v2, v3] [.ref a, w0, w1, w2, w3] h Q := ex_nx (show mx_at 218 635 = some (.aload_n 0, 1) by decide +kernel) rfl
set_option maxRecDepth 20000 in
theorem i218_635f0 : ex_ X d 218 635 [.float 1, v1, v2, v3] [w0, w1, w2, w3] h Q = ex_ X d 218 636 [.float 1, v1, v2, v3] [.float 1, w0, w1, w2, w3] h Q := ex_nx (show mx_at 218 635 = some (.aload_n 0, 1) by decide +kernel) rfl
set_option maxRecDepth 20000 in
theorem i218_636 : ex_ X d 218 636 [v0, v1, v2, .int x] [w0, w1, w2, w3, w4] h Q = ex_ X d 218 637 [v0, v1, v2, .int x] [.int x, w0, w1, w2, w3, w4] h Q := ex_nx (show mx_at 218 636 = some (.iload_n 3, 1) by decide +kernel) rfl
set_option maxRecDepth 20000 in
theorem i218_637 : ex_ X d 218 637 [v0, v1, v2, v3] [w0, w1, w2, w3, w4, w5] h Q = ex_ X d 218 638 [v0, v1, v2, v3] [.int 3, w0, w1, w2, w3, w4, w5] h Q := R_iconst (show mx_at 218 637 = some (.iconst 3, 1) by decide +kernel) (by decide)
set_option maxRecDepth 20000 in
theorem i218_638 : ex_ X d 218 638 [v0, v1, v2, v3] [.int y, .int x, w0, w1, w2, w3, w4] h Q = ex_ X d 218 639 [v0, v1, v2, v3] [.int (x + y), w0, w1, w2, w3, w4] h Q := ex_nx (show mx_at 218 638 = some (.iadd, 1) by decide +kernel) rfl
set_option maxRecDepth 20000 in
theorem i218_639 : ex_ X d 218 639 [v0, v1, v2, v3] [.int i, .ref a, w0, w1, w2, w3] h Q = (ik_ h a i = true ∧ ex_ X d 218 640 [v0, v1, v2, v3] [.int (ia_ h a i), w0, w1, w2, w3] h Q) := R_iald (show mx_at 218 639 = some (.iaload, 1) by decide +kernel)
set_option maxRecDepth 20000 in
theorem i218_639f : ex_ X d 218 639 [v0, v1, v2, v3] [.int i, .float 1, w0, w1, w2, w3] h Q = (mx_in i X.1 = true ∧ ex_ X d 218 640 [v0, v1, v2, v3] [.int (X.2 i.toNatClampNeg), w0, w1, w2, w3] h Q) := R_ialdx (show mx_at 218 639 = some (.iaload, 1) by decide +kernel) rfl
set_option maxRecDepth 20000 in
theorem i218_640 : ex_ X d 218 640 [.ref a, v1, v2, v3] [w0, w1, w2, w3, w4] h Q = ex_ X d 218 641 [.ref a, v1, v2, v3] [.ref a, w0, w1, w2, w3, w4] h Q := ex_nx (show mx_at 218 640 = some (.aload_n 0, 1) by decide +kernel) rfl
set_option maxRecDepth 20000 in
theorem i218_640f0 : ex_ X d 218 640 [.float 1, v1, v2, v3] [w0, w1, w2, w3, w4] h Q = ex_ X d 218 641 [.float 1, v1, v2, v3] [.float 1, w0, w1, w2, w3, w4] h Q := ex_nx (show mx_at 218 640 = some (.aload_n 0, 1) by decide +kernel) rfl
set_option maxRecDepth 20000 in
theorem i218_641 : ex_ X d 218 641 [v0, v1, v2, .int x] [w0, w1, w2, w3, w4, w5] h Q = ex_ X d 218 642 [v0, v1, v2, .int x] [.int x, w0, w1, w2, w3, w4, w5] h Q := ex_nx (show mx_at 218 641 = some (.iload_n 3, 1) by decide +kernel) rfl
set_option maxRecDepth 20000 in
theorem i218_642 : ex_ X d 218 642 [v0, v1, v2, v3] [w0, w1, w2, w3, w4, w5, w6] h Q = ex_ X d 218 643 [v0, v1, v2, v3] [.int 4, w0, w1, w2, w3, w4, w5, w6] h Q := R_iconst (show mx_at 218 642 = some (.iconst 4, 1) by decide +kernel) (by decide)
set_option maxRecDepth 20000 in
theorem i218_643 : ex_ X d 218 643 [v0, v1, v2, v3] [.int y, .int x, w0, w1, w2, w3, w4, w5] h Q = ex_ X d 218 644 [v0, v1, v2, v3] [.int (x + y), w0, w1, w2, w3, w4, w5] h Q := ex_nx (show mx_at 218 643 = some (.iadd, 1) by decide +kernel) rfl
set_option maxRecDepth 20000 in
theorem i218_644 : ex_ X d 218 644 [v0, v1, v2, v3] [.int i, .ref a, w0, w1, w2, w3, w4] h Q = (ik_ h a i = true ∧ ex_ X d 218 645 [v0, v1, v2, v3] [.int (ia_ h a i), w0, w1, w2, w3, w4] h Q) := R_iald (show mx_at 218 644 = some (.iaload, 1) by decide +kernel)
set_option maxRecDepth 20000 in
theorem i218_644f : ex_ X d 218 644 [v0, v1, v2, v3] [.int i, .float 1, w0, w1, w2, w3, w4] h Q = (mx_in i X.1 = true ∧ ex_ X d 218 645 [v0, v1, v2, v3] [.int (X.2 i.toNatClampNeg), w0, w1, w2, w3, w4] h Q) := R_ialdx (show mx_at 218 644 = some (.iaload, 1) by decide +kernel) rfl
set_option maxRecDepth 20000 in
theorem i218_645 : ex_ X d 218 645 [.ref a, v1, v2, v3] [w0, w1, w2, w3, w4, w5] h Q = ex_ X d 218 646 [.ref a, v1, v2, v3] [.ref a, w0, w1, w2, w3, w4, w5] h Q := ex_nx (show mx_at 218 645 = some (.aload_n 0, 1) by decide +kernel) rfl
set_option maxRecDepth 20000 in
theorem i218_645f0 : ex_ X d 218 645 [.float 1, v1, v2, v3] [w0, w1, w2, w3, w4, w5] h Q = ex_ X d 218 646 [.float 1, v1, v2, v3] [.float 1, w0, w1, w2, w3, w4, w5] h Q := ex_nx (show mx_at 218 645 = some (.aload_n 0, 1) by decide +kernel) rfl
set_option maxRecDepth 20000 in
theorem i218_646 : ex_ X d 218 646 [v0, v1, v2, .int x] [w0, w1, w2, w3, w4, w5, w6] h Q = ex_ X d 218 647 [v0, v1, v2, .int x] [.int x, w0, w1, w2, w3, w4, w5, w6] h Q := ex_nx (show mx_at 218 646 = some (.iload_n 3, 1) by decide +kernel) rfl
set_option maxRecDepth 20000 in
theorem i218_647 : ex_ X d 218 647 [v0, v1, v2, v3] [w0, w1, w2, w3, w4, w5, w6, w7] h Q = ex_ X d 218 648 [v0, v1, v2, v3] [.int 5, w0, w1, w2, w3, w4, w5, w6, w7] h Q := R_iconst (show mx_at 218 647 = some (.iconst 5, 1) by decide +kernel) (by decide)
set_option maxRecDepth 20000 in
theorem i218_648 : ex_ X d 218 648 [v0, v1, v2, v3] [.int y, .int x, w0, w1, w2, w3, w4, w5, w6] h Q = ex_ X d 218 649 [v0, v1, v2, v3] [.int (x + y), w0, w1, w2, w3, w4, w5, w6] h Q := ex_nx (show mx_at 218 648 = some (.iadd, 1) by decide +kernel) rfl
set_option maxRecDepth 20000 in
theorem i218_649 : ex_ X d 218 649 [v0, v1, v2, v3] [.int i, .ref a, w0, w1, w2, w3, w4, w5] h Q = (ik_ h a i = true ∧ ex_ X d 218 650 [v0, v1, v2, v3] [.int (ia_ h a i), w0, w1, w2, w3, w4, w5] h Q) := R_iald (show mx_at 218 649 = some (.iaload, 1) by decide +kernel)
set_option maxRecDepth 20000 in
theorem i218_649f : ex_ X d 218 649 [v0, v1, v2, v3] [.int i, .float 1, w0, w1, w2, w3, w4, w5] h Q = (mx_in i X.1 = true ∧ ex_ X d 218 650 [v0, v1, v2, v3] [.int (X.2 i.toNatClampNeg), w0, w1, w2, w3, w4, w5] h Q) := R_ialdx (show mx_at 218 649 = some (.iaload, 1) by decide +kernel) rfl
set_option maxRecDepth 20000 in
theorem i218_650 (hc : co_ h a = some 12) : ex_ X (d + 1) 218 650 [v0, v1, v2, v3] [.int x4, .int x3, .int x2, .int x1, .int x0, .ref a, w0] h Q = ev_ X d 149 [.ref a, .int x0, .int x1, .int x2, .int x3, .int x4] h (fun r h' => ex_ X (d + 1) 218 653 [v0, v1, v2, v3] (r.toList ++ [w0]) h' Q) := R_vir (show mx_at 218 650 = some (.invokevirtual 67, 3) by decide +kernel) (mx_clk ow218 cc21_67) (Nat.le_of_ble_eq_true rfl) rfl rfl hc rfl (Nat.le_of_ble_eq_true rfl) (Nat.le_of_ble_eq_true rfl) (by rw [ml149]; exact Nat.le_of_ble_eq_true rfl)
set_option maxRecDepth 20000 in
theorem i218_653 : ex_ X d 218 653 [v0, v1, v2, v3] [.int y, .int x] h Q = if x = y then ex_ X d 218 1380 [v0, v1, v2, v3] [] h Q else ex_ X d 218 656 [v0, v1, v2, v3] [] h Q := (R_br (show mx_at 218 653 = some (.if_icmp .eq 727, 3) by decide +kernel) rfl rfl).trans mx_ite
set_option maxRecDepth 20000 in
theorem i218_656 : ex_ X d 218 656 [v0, v1, v2, v3] [] h Q = ex_ X d 218 657 [v0, v1, v2, v3] [.int 0] h Q := R_iconst (show mx_at 218 656 = some (.iconst 0, 1) by decide +kernel) (by decide)
set_option maxRecDepth 20000 in
theorem i218_657 (hx : x = 0 ∨ x = 1) : ex_ X d 218 657 [v0, v1, v2, v3] [.int x] h Q = Q (some (.int x)) h := ex_ret (show mx_at 218 657 = some (.ireturn, 1) by decide +kernel) (mx_retZ hx rt218)
set_option maxRecDepth 20000 in
theorem i218_658 : ex_ X d 218 658 [v0, .ref a, v2, v3] [] h Q = ex_ X d 218 659 [v0, .ref a, v2, v3] [.ref a] h Q := ex_nx (show mx_at 218 658 = some (.aload_n 1, 1) by decide +kernel) rfl
set_option maxRecDepth 20000 in
theorem i218_658f0 : ex_ X d 218 658 [v0, .float 1, v2, v3] [] h Q = ex_ X d 218 659 [v0, .float 1, v2, v3] [.float 1] h Q := ex_nx (show mx_at 218 658 = some (.aload_n 1, 1) by decide +kernel) rfl
set_option maxRecDepth 20000 in
theorem i218_659 : ex_ X d 218 659 [.ref a, v1, v2, v3] [w0] h Q = ex_ X d 218 660 [.ref a, v1, v2, v3] [.ref a, w0] h Q := ex_nx (show mx_at 218 659 = some (.aload_n 0, 1) by decide +kernel) rfl
set_option maxRecDepth 20000 in
theorem i218_659f0 : ex_ X d 218 659 [.float 1, v1, v2, v3] [w0] h Q = ex_ X d 218 660 [.float 1, v1, v2, v3] [.float 1, w0] h Q := ex_nx (show mx_at 218 659 = some (.aload_n 0, 1) by decide +kernel) rfl
set_option maxRecDepth 20000 in
theorem i218_660 : ex_ X d 218 660 [v0, v1, v2, .int x] [w0, w1] h Q = ex_ X d 218 661 [v0, v1, v2, .int x] [.int x, w0, w1] h Q := ex_nx (show mx_at 218 660 = some (.iload_n 3, 1) by decide +kernel) rfl
set_option maxRecDepth 20000 in
theorem i218_661 : ex_ X d 218 661 [v0, v1, v2, v3] [w0, w1, w2] h Q = ex_ X d 218 662 [v0, v1, v2, v3] [.int 1, w0, w1, w2] h Q := R_iconst (show mx_at 218 661 = some (.iconst 1, 1) by decide +kernel) (by decide)
set_option maxRecDepth 20000 in
theorem i218_662 : ex_ X d 218 662 [v0, v1, v2, v3] [.int y, .int x, w0, w1] h Q = ex_ X d 218 663 [v0, v1, v2, v3] [.int (x + y), w0, w1] h Q := ex_nx (show mx_at 218 662 = some (.iadd, 1) by decide +kernel) rfl
set_option maxRecDepth 20000 in
theorem i218_663 : ex_ X d 218 663 [v0, v1, v2, v3] [.int i, .ref a, w0] h Q = (ik_ h a i = true ∧ ex_ X d 218 664 [v0, v1, v2, v3] [.int (ia_ h a i), w0] h Q) := R_iald (show mx_at 218 663 = some (.iaload, 1) by decide +kernel)
set_option maxRecDepth 20000 in
theorem i218_663f : ex_ X d 218 663 [v0, v1, v2, v3] [.int i, .float 1, w0] h Q = (mx_in i X.1 = true ∧ ex_ X d 218 664 [v0, v1, v2, v3] [.int (X.2 i.toNatClampNeg), w0] h Q) := R_ialdx (show mx_at 218 663 = some (.iaload, 1) by decide +kernel) rfl
set_option maxRecDepth 20000 in
theorem i218_664 (hc : co_ h a = some 11) : ex_ X (d + 1) 218 664 [v0, v1, v2, v3] [.int x0, .ref a] h Q = ev_ X d 82 [.ref a, .int x0] h (fun r h' => ex_ X (d + 1) 218 667 [v0, v1, v2, v3] (r.toList ++ []) h' Q) := R_vir (show mx_at 218 664 = some (.invokevirtual 68, 3) by decide +kernel) (mx_clk ow218 cc21_68) (Nat.le_of_ble_eq_true rfl) rfl rfl hc rfl (Nat.le_of_ble_eq_true rfl) (Nat.le_of_ble_eq_true rfl) (by rw [ml82]; exact Nat.le_of_ble_eq_true rfl)
set_option maxRecDepth 20000 in
theorem i218_667 : ex_ X d 218 667 [v0, v1, .ref a, v3] [w0] h Q = ex_ X d 218 668 [v0, v1, .ref a, v3] [.ref a, w0] h Q := ex_nx (show mx_at 218 667 = some (.aload_n 2, 1) by decide +kernel) rfl
set_option maxRecDepth 20000 in
theorem i218_667f0 : ex_ X d 218 667 [v0, v1, .float 1, v3] [w0] h Q = ex_ X d 218 668 [v0, v1, .float 1, v3] [.float 1, w0] h Q := ex_nx (show mx_at 218 667 = some (.aload_n 2, 1) by decide +kernel) rfl
set_option maxRecDepth 20000 in
theorem i218_668 : ex_ X d 218 668 [.ref a, v1, v2, v3] [w0, w1] h Q = ex_ X d 218 669 [.ref a, v1, v2, v3] [.ref a, w0, w1] h Q := ex_nx (show mx_at 218 668 = some (.aload_n 0, 1) by decide +kernel) rfl
set_option maxRecDepth 20000 in
theorem i218_668f0 : ex_ X d 218 668 [.float 1, v1, v2, v3] [w0, w1] h Q = ex_ X d 218 669 [.float 1, v1, v2, v3] [.float 1, w0, w1] h Q := ex_nx (show mx_at 218 668 = some (.aload_n 0, 1) by decide +kernel) rfl
set_option maxRecDepth 20000 in
theorem i218_669 : ex_ X d 218 669 [v0, v1, v2, .int x] [w0, w1, w2] h Q = ex_ X d 218 670 [v0, v1, v2, .int x] [.int x, w0, w1, w2] h Q := ex_nx (show mx_at 218 669 = some (.iload_n 3, 1) by decide +kernel) rfl
set_option maxRecDepth 20000 in
theorem i218_670 : ex_ X d 218 670 [v0, v1, v2, v3] [w0, w1, w2, w3] h Q = ex_ X d 218 671 [v0, v1, v2, v3] [.int 1, w0, w1, w2, w3] h Q := R_iconst (show mx_at 218 670 = some (.iconst 1, 1) by decide +kernel) (by decide)
set_option maxRecDepth 20000 in
theorem i218_671 : ex_ X d 218 671 [v0, v1, v2, v3] [.int y, .int x, w0, w1, w2] h Q = ex_ X d 218 672 [v0, v1, v2, v3] [.int (x + y), w0, w1, w2] h Q := ex_nx (show mx_at 218 671 = some (.iadd, 1) by decide +kernel) rfl
set_option maxRecDepth 20000 in
theorem i218_672 : ex_ X d 218 672 [v0, v1, v2, v3] [.int i, .ref a, w0, w1] h Q = (ik_ h a i = true ∧ ex_ X d 218 673 [v0, v1, v2, v3] [.int (ia_ h a i), w0, w1] h Q) := R_iald (show mx_at 218 672 = some (.iaload, 1) by decide +kernel)
set_option maxRecDepth 20000 in
theorem i218_672f : ex_ X d 218 672 [v0, v1, v2, v3] [.int i, .float 1, w0, w1] h Q = (mx_in i X.1 = true ∧ ex_ X d 218 673 [v0, v1, v2, v3] [.int (X.2 i.toNatClampNeg), w0, w1] h Q) := R_ialdx (show mx_at 218 672 = some (.iaload, 1) by decide +kernel) rfl
set_option maxRecDepth 20000 in
theorem i218_673 (hc : co_ h a = some 12) : ex_ X (d + 1) 218 673 [v0, v1, v2, v3] [.int x0, .ref a, w0] h Q = ev_ X d 172 [.ref a, .int x0] h (fun r h' => ex_ X (d + 1) 218 676 [v0, v1, v2, v3] (r.toList ++ [w0]) h' Q) := R_vir (show mx_at 218 673 = some (.invokevirtual 71, 3) by decide +kernel) (mx_clk ow218 cc21_71) (Nat.le_of_ble_eq_true rfl) rfl rfl hc rfl (Nat.le_of_ble_eq_true rfl) (Nat.le_of_ble_eq_true rfl) (by rw [ml172]; exact Nat.le_of_ble_eq_true rfl)
set_option maxRecDepth 20000 in
theorem i218_676 : ex_ X d 218 676 [v0, v1, v2, v3] [.int y, .int x] h Q = if x = y then ex_ X d 218 1380 [v0, v1, v2, v3] [] h Q else ex_ X d 218 679 [v0, v1, v2, v3] [] h Q := (R_br (show mx_at 218 676 = some (.if_icmp .eq 704, 3) by decide +kernel) rfl rfl).trans mx_ite
set_option maxRecDepth 20000 in
theorem i218_679 : ex_ X d 218 679 [v0, v1, v2, v3] [] h Q = ex_ X d 218 680 [v0, v1, v2, v3] [.int 0] h Q := R_iconst (show mx_at 218 679 = some (.iconst 0, 1) by decide +kernel) (by decide)
set_option maxRecDepth 20000 in
theorem i218_680 (hx : x = 0 ∨ x = 1) : ex_ X d 218 680 [v0, v1, v2, v3] [.int x] h Q = Q (some (.int x)) h := ex_ret (show mx_at 218 680 = some (.ireturn, 1) by decide +kernel) (mx_retZ hx rt218)
set_option maxRecDepth 20000 in
theorem i218_681 : ex_ X d 218 681 [v0, .ref a, v2, v3] [] h Q = ex_ X d 218 682 [v0, .ref a, v2, v3] [.ref a] h Q := ex_nx (show mx_at 218 681 = some (.aload_n 1, 1) by decide +kernel) rfl
set_option maxRecDepth 20000 in
theorem i218_681f0 : ex_ X d 218 681 [v0, .float 1, v2, v3] [] h Q = ex_ X d 218 682 [v0, .float 1, v2, v3] [.float 1] h Q := ex_nx (show mx_at 218 681 = some (.aload_n 1, 1) by decide +kernel) rfl
set_option maxRecDepth 20000 in
theorem i218_682 : ex_ X d 218 682 [.ref a, v1, v2, v3] [w0] h Q = ex_ X d 218 683 [.ref a, v1, v2, v3] [.ref a, w0] h Q := ex_nx (show mx_at 218 682 = some (.aload_n 0, 1) by decide +kernel) rfl
set_option maxRecDepth 20000 in
theorem i218_682f0 : ex_ X d 218 682 [.float 1, v1, v2, v3] [w0] h Q = ex_ X d 218 683 [.float 1, v1, v2, v3] [.float 1, w0] h Q := ex_nx (show mx_at 218 682 = some (.aload_n 0, 1) by decide +kernel) rfl
set_option maxRecDepth 20000 in
theorem i218_683 : ex_ X d 218 683 [v0, v1, v2, .int x] [w0, w1] h Q = ex_ X d 218 684 [v0, v1, v2, .int x] [.int x, w0, w1] h Q := ex_nx (show mx_at 218 683 = some (.iload_n 3, 1) by decide +kernel) rfl
set_option maxRecDepth 20000 in
theorem i218_684 : ex_ X d 218 684 [v0, v1, v2, v3] [w0, w1, w2] h Q = ex_ X d 218 685 [v0, v1, v2, v3] [.int 1, w0, w1, w2] h Q := R_iconst (show mx_at 218 684 = some (.iconst 1, 1) by decide +kernel) (by decide)
set_option maxRecDepth 20000 in
theorem i218_685 : ex_ X d 218 685 [v0, v1, v2, v3] [.int y, .int x, w0, w1] h Q = ex_ X d 218 686 [v0, v1, v2, v3] [.int (x + y), w0, w1] h Q := ex_nx (show mx_at 218 685 = some (.iadd, 1) by decide +kernel) rfl
set_option maxRecDepth 20000 in
theorem i218_686 : ex_ X d 218 686 [v0, v1, v2, v3] [.int i, .ref a, w0] h Q = (ik_ h a i = true ∧ ex_ X d 218 687 [v0, v1, v2, v3] [.int (ia_ h a i), w0] h Q) := R_iald (show mx_at 218 686 = some (.iaload, 1) by decide +kernel)
set_option maxRecDepth 20000 in
theorem i218_686f : ex_ X d 218 686 [v0, v1, v2, v3] [.int i, .float 1, w0] h Q = (mx_in i X.1 = true ∧ ex_ X d 218 687 [v0, v1, v2, v3] [.int (X.2 i.toNatClampNeg), w0] h Q) := R_ialdx (show mx_at 218 686 = some (.iaload, 1) by decide +kernel) rfl
set_option maxRecDepth 20000 in
theorem i218_687 (hc : co_ h a = some 11) : ex_ X (d + 1) 218 687 [v0, v1, v2, v3] [.int x0, .ref a] h Q = ev_ X d 83 [.ref a, .int x0] h (fun r h' => ex_ X (d + 1) 218 690 [v0, v1, v2, v3] (r.toList ++ []) h' Q) := R_vir (show mx_at 218 687 = some (.invokevirtual 72, 3) by decide +kernel) (mx_clk ow218 cc21_72) (Nat.le_of_ble_eq_true rfl) rfl rfl hc rfl (Nat.le_of_ble_eq_true rfl) (Nat.le_of_ble_eq_true rfl) (by rw [ml83]; exact Nat.le_of_ble_eq_true rfl)
set_option maxRecDepth 20000 in
theorem i218_690 : ex_ X d 218 690 [v0, v1, .ref a, v3] [w0] h Q = ex_ X d 218 691 [v0, v1, .ref a, v3] [.ref a, w0] h Q := ex_nx (show mx_at 218 690 = some (.aload_n 2, 1) by decide +kernel) rfl
set_option maxRecDepth 20000 in
theorem i218_690f0 : ex_ X d 218 690 [v0, v1, .float 1, v3] [w0] h Q = ex_ X d 218 691 [v0, v1, .float 1, v3] [.float 1, w0] h Q := ex_nx (show mx_at 218 690 = some (.aload_n 2, 1) by decide +kernel) rfl
set_option maxRecDepth 20000 in
theorem i218_691 : ex_ X d 218 691 [.ref a, v1, v2, v3] [w0, w1] h Q = ex_ X d 218 692 [.ref a, v1, v2, v3] [.ref a, w0, w1] h Q := ex_nx (show mx_at 218 691 = some (.aload_n 0, 1) by decide +kernel) rfl
set_option maxRecDepth 20000 in
theorem i218_691f0 : ex_ X d 218 691 [.float 1, v1, v2, v3] [w0, w1] h Q = ex_ X d 218 692 [.float 1, v1, v2, v3] [.float 1, w0, w1] h Q := ex_nx (show mx_at 218 691 = some (.aload_n 0, 1) by decide +kernel) rfl
set_option maxRecDepth 20000 in
theorem i218_692 : ex_ X d 218 692 [v0, v1, v2, .int x] [w0, w1, w2] h Q = ex_ X d 218 693 [v0, v1, v2, .int x] [.int x, w0, w1, w2] h Q := ex_nx (show mx_at 218 692 = some (.iload_n 3, 1) by decide +kernel) rfl
set_option maxRecDepth 20000 in
theorem i218_693 : ex_ X d 218 693 [v0, v1, v2, v3] [w0, w1, w2, w3] h Q = ex_ X d 218 694 [v0, v1, v2, v3] [.int 1, w0, w1, w2, w3] h Q := R_iconst (show mx_at 218 693 = some (.iconst 1, 1) by decide +kernel) (by decide)
set_option maxRecDepth 20000 in
theorem i218_694 : ex_ X d 218 694 [v0, v1, v2, v3] [.int y, .int x, w0, w1, w2] h Q = ex_ X d 218 695 [v0, v1, v2, v3] [.int (x + y), w0, w1, w2] h Q := ex_nx (show mx_at 218 694 = some (.iadd, 1) by decide +kernel) rfl
set_option maxRecDepth 20000 in
theorem i218_695 : ex_ X d 218 695 [v0, v1, v2, v3] [.int i, .ref a, w0, w1] h Q = (ik_ h a i = true ∧ ex_ X d 218 696 [v0, v1, v2, v3] [.int (ia_ h a i), w0, w1] h Q) := R_iald (show mx_at 218 695 = some (.iaload, 1) by decide +kernel)
set_option maxRecDepth 20000 in
theorem i218_695f : ex_ X d 218 695 [v0, v1, v2, v3] [.int i, .float 1, w0, w1] h Q = (mx_in i X.1 = true ∧ ex_ X d 218 696 [v0, v1, v2, v3] [.int (X.2 i.toNatClampNeg), w0, w1] h Q) := R_ialdx (show mx_at 218 695 = some (.iaload, 1) by decide +kernel) rfl
set_option maxRecDepth 20000 in
theorem i218_696 (hc : co_ h a = some 12) : ex_ X (d + 1) 218 696 [v0, v1, v2, v3] [.int x0, .ref a, w0] h Q = ev_ X d 173 [.ref a, .int x0] h (fun r h' => ex_ X (d + 1) 218 699 [v0, v1, v2, v3] (r.toList ++ [w0]) h' Q) := R_vir (show mx_at 218 696 = some (.invokevirtual 75, 3) by decide +kernel) (mx_clk ow218 cc21_75) (Nat.le_of_ble_eq_true rfl) rfl rfl hc rfl (Nat.le_of_ble_eq_true rfl) (Nat.le_of_ble_eq_true rfl) (by rw [ml173]; exact Nat.le_of_ble_eq_true rfl)
set_option maxRecDepth 20000 in
theorem i218_699 : ex_ X d 218 699 [v0, v1, v2, v3] [.int y, .int x] h Q = if x = y then ex_ X d 218 1380 [v0, v1, v2, v3] [] h Q else ex_ X d 218 702 [v0, v1, v2, v3] [] h Q := (R_br (show mx_at 218 699 = some (.if_icmp .eq 681, 3) by decide +kernel) rfl rfl).trans mx_ite
set_option maxRecDepth 20000 in
theorem i218_702 : ex_ X d 218 702 [v0, v1, v2, v3] [] h Q = ex_ X d 218 703 [v0, v1, v2, v3] [.int 0] h Q := R_iconst (show mx_at 218 702 = some (.iconst 0, 1) by decide +kernel) (by decide)
set_option maxRecDepth 20000 in
theorem i218_703 (hx : x = 0 ∨ x = 1) : ex_ X d 218 703 [v0, v1, v2, v3] [.int x] h Q = Q (some (.int x)) h := ex_ret (show mx_at 218 703 = some (.ireturn, 1) by decide +kernel) (mx_retZ hx rt218)
set_option maxRecDepth 20000 in
theorem i218_704 : ex_ X d 218 704 [v0, .ref a, v2, v3] [] h Q = ex_ X d 218 705 [v0, .ref a, v2, v3] [.ref a] h Q := ex_nx (show mx_at 218 704 = some (.aload_n 1, 1) by decide +kernel) rfl
set_option maxRecDepth 20000 in
theorem i218_704f0 : ex_ X d 218 704 [v0, .float 1, v2, v3] [] h Q = ex_ X d 218 705 [v0, .float 1, v2, v3] [.float 1] h Q := ex_nx (show mx_at 218 704 = some (.aload_n 1, 1) by decide +kernel) rfl
set_option maxRecDepth 20000 in
theorem i218_705 : ex_ X d 218 705 [.ref a, v1, v2, v3] [w0] h Q = ex_ X d 218 706 [.ref a, v1, v2, v3] [.ref a, w0] h Q := ex_nx (show mx_at 218 705 = some (.aload_n 0, 1) by decide +kernel) rfl
set_option maxRecDepth 20000 in
theorem i218_705f0 : ex_ X d 218 705 [.float 1, v1, v2, v3] [w0] h Q = ex_ X d 218 706 [.float 1, v1, v2, v3] [.float 1, w0] h Q := ex_nx (show mx_at 218 705 = some (.aload_n 0, 1) by decide +kernel) rfl
set_option maxRecDepth 20000 in
theorem i218_706 : ex_ X d 218 706 [v0, v1, v2, .int x] [w0, w1] h Q = ex_ X d 218 707 [v0, v1, v2, .int x] [.int x, w0, w1] h Q := ex_nx (show mx_at 218 706 = some (.iload_n 3, 1) by decide +kernel) rfl
set_option maxRecDepth 20000 in
theorem i218_707 : ex_ X d 218 707 [v0, v1, v2, v3] [w0, w1, w2] h Q = ex_ X d 218 708 [v0, v1, v2, v3] [.int 1, w0, w1, w2] h Q := R_iconst (show mx_at 218 707 = some (.iconst 1, 1) by decide +kernel) (by decide)
set_option maxRecDepth 20000 in
theorem i218_708 : ex_ X d 218 708 [v0, v1, v2, v3] [.int y, .int x, w0, w1] h Q = ex_ X d 218 709 [v0, v1, v2, v3] [.int (x + y), w0, w1] h Q := ex_nx (show mx_at 218 708 = some (.iadd, 1) by decide +kernel) rfl
set_option maxRecDepth 20000 in
theorem i218_709 : ex_ X d 218 709 [v0, v1, v2, v3] [.int i, .ref a, w0] h Q = (ik_ h a i = true ∧ ex_ X d 218 710 [v0, v1, v2, v3] [.int (ia_ h a i), w0] h Q) := R_iald (show mx_at 218 709 = some (.iaload, 1) by decide +kernel)
set_option maxRecDepth 20000 in
theorem i218_709f : ex_ X d 218 709 [v0, v1, v2, v3] [.int i, .float 1, w0] h Q = (mx_in i X.1 = true ∧ ex_ X d 218 710 [v0, v1, v2, v3] [.int (X.2 i.toNatClampNeg), w0] h Q) := R_ialdx (show mx_at 218 709 = some (.iaload, 1) by decide +kernel) rfl
set_option maxRecDepth 20000 in
theorem i218_710 : ex_ X d 218 710 [.ref a, v1, v2, v3] [w0, w1] h Q = ex_ X d 218 711 [.ref a, v1, v2, v3] [.ref a, w0, w1] h Q := ex_nx (show mx_at 218 710 = some (.aload_n 0, 1) by decide +kernel) rfl
set_option maxRecDepth 20000 in
theorem i218_710f0 : ex_ X d 218 710 [.float 1, v1, v2, v3] [w0, w1] h Q = ex_ X d 218 711 [.float 1, v1, v2, v3] [.float 1, w0, w1] h Q := ex_nx (show mx_at 218 710 = some (.aload_n 0, 1) by decide +kernel) rfl
set_option maxRecDepth 20000 in
theorem i218_711 : ex_ X d 218 711 [v0, v1, v2, .int x] [w0, w1, w2] h Q = ex_ X d 218 712 [v0, v1, v2, .int x] [.int x, w0, w1, w2] h Q := ex_nx (show mx_at 218 711 = some (.iload_n 3, 1) by decide +kernel) rfl
set_option maxRecDepth 20000 in
theorem i218_712 : ex_ X d 218 712 [v0, v1, v2, v3] [w0, w1, w2, w3] h Q = ex_ X d 218 713 [v0, v1, v2, v3] [.int 2, w0, w1, w2, w3] h Q := R_iconst (show mx_at 218 712 = some (.iconst 2, 1) by decide +kernel) (by decide)
set_option maxRecDepth 20000 in
theorem i218_713 : ex_ X d 218 713 [v0, v1, v2, v3] [.int y, .int x, w0, w1, w2] h Q = ex_ X d 218 714 [v0, v1, v2, v3] [.int (x + y), w0, w1, w2] h Q := ex_nx (show mx_at 218 713 = some (.iadd, 1) by decide +kernel) rfl
set_option maxRecDepth 20000 in
theorem i218_714 : ex_ X d 218 714 [v0, v1, v2, v3] [.int i, .ref a, w0, w1] h Q = (ik_ h a i = true ∧ ex_ X d 218 715 [v0, v1, v2, v3] [.int (ia_ h a i), w0, w1] h Q) := R_iald (show mx_at 218 714 = some (.iaload, 1) by decide +kernel)
set_option maxRecDepth 20000 in
theorem i218_714f : ex_ X d 218 714 [v0, v1, v2, v3] [.int i, .float 1, w0, w1] h Q = (mx_in i X.1 = true ∧ ex_ X d 218 715 [v0, v1, v2, v3] [.int (X.2 i.toNatClampNeg), w0, w1] h Q) := R_ialdx (show mx_at 218 714 = some (.iaload, 1) by decide +kernel) rfl
set_option maxRecDepth 20000 in
theorem i218_715 : ex_ X d 218 715 [.ref a, v1, v2, v3] [w0, w1, w2] h Q = ex_ X d 218 716 [.ref a, v1, v2, v3] [.ref a, w0, w1, w2] h Q := ex_nx (show mx_at 218 715 = some (.aload_n 0, 1) by decide +kernel) rfl
set_option maxRecDepth 20000 in
theorem i218_715f0 : ex_ X d 218 715 [.float 1, v1, v2, v3] [w0, w1, w2] h Q = ex_ X d 218 716 [.float 1, v1, v2, v3] [.float 1, w0, w1, w2] h Q := ex_nx (show mx_at 218 715 = some (.aload_n 0, 1) by decide +kernel) rfl
set_option maxRecDepth 20000 in
theorem i218_716 : ex_ X d 218 716 [v0, v1, v2, .int x] [w0, w1, w2, w3] h Q = ex_ X d 218 717 [v0, v1, v2, .int x] [.int x, w0, w1, w2, w3] h Q := ex_nx (show mx_at 218 716 = some (.iload_n 3, 1) by decide +kernel) rfl
set_option maxRecDepth 20000 in
theorem i218_717 : ex_ X d 218 717 [v0, v1, v2, v3] [w0, w1, w2, w3, w4] h Q = ex_ X d 218 718 [v0, v1, v2, v3] [.int 3, w0, w1, w2, w3, w4] h Q := R_iconst (show mx_at 218 717 = some (.iconst 3, 1) by decide +kernel) (by decide)
set_option maxRecDepth 20000 in
theorem i218_718 : ex_ X d 218 718 [v0, v1, v2, v3] [.int y, .int x, w0, w1, w2, w3] h Q = ex_ X d 218 719 [v0, v1, v2, v3] [.int (x + y), w0, w1, w2, w3] h Q := ex_nx (show mx_at 218 718 = some (.iadd, 1) by decide +kernel) rfl
set_option maxRecDepth 20000 in
theorem i218_719 : ex_ X d 218 719 [v0, v1, v2, v3] [.int i, .ref a, w0, w1, w2] h Q = (ik_ h a i = true ∧ ex_ X d 218 720 [v0, v1, v2, v3] [.int (ia_ h a i), w0, w1, w2] h Q) := R_iald (show mx_at 218 719 = some (.iaload, 1) by decide +kernel)
set_option maxRecDepth 20000 in
theorem i218_719f : ex_ X d 218 719 [v0, v1, v2, v3] [.int i, .float 1, w0, w1, w2] h Q = (mx_in i X.1 = true ∧ ex_ X d 218 720 [v0, v1, v2, v3] [.int (X.2 i.toNatClampNeg), w0, w1, w2] h Q) := R_ialdx (show mx_at 218 719 = some (.iaload, 1) by decide +kernel) rfl
set_option maxRecDepth 20000 in
theorem i218_720 (hc : co_ h a = some 11) : ex_ X (d + 1) 218 720 [v0, v1, v2, v3] [.int x2, .int x1, .int x0, .ref a] h Q = ev_ X d 84 [.ref a, .int x0, .int x1, .int x2] h (fun r h' => ex_ X (d + 1) 218 723 [v0, v1, v2, v3] (r.toList ++ []) h' Q) := R_vir (show mx_at 218 720 = some (.invokevirtual 76, 3) by decide +kernel) (mx_clk ow218 cc21_76) (Nat.le_of_ble_eq_true rfl) rfl rfl hc rfl (Nat.le_of_ble_eq_true rfl) (Nat.le_of_ble_eq_true rfl) (by rw [ml84]; exact Nat.le_of_ble_eq_true rfl)
set_option maxRecDepth 20000 in
theorem i218_723 : ex_ X d 218 723 [v0, v1, .ref a, v3] [w0] h Q = ex_ X d 218 724 [v0, v1, .ref a, v3] [.ref a, w0] h Q := ex_nx (show mx_at 218 723 = some (.aload_n 2, 1) by decide +kernel) rfl
set_option maxRecDepth 20000 in
theorem i218_723f0 : ex_ X d 218 723 [v0, v1, .float 1, v3] [w0] h Q = ex_ X d 218 724 [v0, v1, .float 1, v3] [.float 1, w0] h Q := ex_nx (show mx_at 218 723 = some (.aload_n 2, 1) by decide +kernel) rfl
set_option maxRecDepth 20000 in
theorem i218_724 : ex_ X d 218 724 [.ref a, v1, v2, v3] [w0, w1] h Q = ex_ X d 218 725 [.ref a, v1, v2, v3] [.ref a, w0, w1] h Q := ex_nx (show mx_at 218 724 = some (.aload_n 0, 1) by decide +kernel) rfl
set_option maxRecDepth 20000 in
theorem i218_724f0 : ex_ X d 218 724 [.float 1, v1, v2, v3] [w0, w1] h Q = ex_ X d 218 725 [.float 1, v1, v2, v3] [.float 1, w0, w1] h Q := ex_nx (show mx_at 218 724 = some (.aload_n 0, 1) by decide +kernel) rfl
set_option maxRecDepth 20000 in
theorem i218_725 : ex_ X d 218 725 [v0, v1, v2, .int x] [w0, w1, w2] h Q = ex_ X d 218 726 [v0, v1, v2, .int x] [.int x, w0, w1, w2] h Q := ex_nx (show mx_at 218 725 = some (.iload_n 3, 1) by decide +kernel) rfl
set_option maxRecDepth 20000 in
theorem i218_726 : ex_ X d 218 726 [v0, v1, v2, v3] [w0, w1, w2, w3] h Q = ex_ X d 218 727 [v0, v1, v2, v3] [.int 1, w0, w1, w2, w3] h Q := R_iconst (show mx_at 218 726 = some (.iconst 1, 1) by decide +kernel) (by decide)
set_option maxRecDepth 20000 in
theorem i218_727 : ex_ X d 218 727 [v0, v1, v2, v3] [.int y, .int x, w0, w1, w2] h Q = ex_ X d 218 728 [v0, v1, v2, v3] [.int (x + y), w0, w1, w2] h Q := ex_nx (show mx_at 218 727 = some (.iadd, 1) by decide +kernel) rfl
set_option maxRecDepth 20000 in
theorem i218_728 : ex_ X d 218 728 [v0, v1, v2, v3] [.int i, .ref a, w0, w1] h Q = (ik_ h a i = true ∧ ex_ X d 218 729 [v0, v1, v2, v3] [.int (ia_ h a i), w0, w1] h Q) := R_iald (show mx_at 218 728 = some (.iaload, 1) by decide +kernel)
set_option maxRecDepth 20000 in
theorem i218_728f : ex_ X d 218 728 [v0, v1, v2, v3] [.int i, .float 1, w0, w1] h Q = (mx_in i X.1 = true ∧ ex_ X d 218 729 [v0, v1, v2, v3] [.int (X.2 i.toNatClampNeg), w0, w1] h Q) := R_ialdx (show mx_at 218 728 = some (.iaload, 1) by decide +kernel) rfl
set_option maxRecDepth 20000 in
theorem i218_729 : ex_ X d 218 729 [.ref a, v1, v2, v3] [w0, w1, w2] h Q = ex_ X d 218 730 [.ref a, v1, v2, v3] [.ref a, w0, w1, w2] h Q := ex_nx (show mx_at 218 729 = some (.aload_n 0, 1) by decide +kernel) rfl
set_option maxRecDepth 20000 in
theorem i218_729f0 : ex_ X d 218 729 [.float 1, v1, v2, v3] [w0, w1, w2] h Q = ex_ X d 218 730 [.float 1, v1, v2, v3] [.float 1, w0, w1, w2] h Q := ex_nx (show mx_at 218 729 = some (.aload_n 0, 1) by decide +kernel) rfl
set_option maxRecDepth 20000 in
theorem i218_730 : ex_ X d 218 730 [v0, v1, v2, .int x] [w0, w1, w2, w3] h Q = ex_ X d 218 731 [v0, v1, v2, .int x] [.int x, w0, w1, w2, w3] h Q := ex_nx (show mx_at 218 730 = some (.iload_n 3, 1) by decide +kernel) rfl
set_option maxRecDepth 20000 in
theorem i218_731 : ex_ X d 218 731 [v0, v1, v2, v3] [w0, w1, w2, w3, w4] h Q = ex_ X d 218 732 [v0, v1, v2, v3] [.int 2, w0, w1, w2, w3, w4] h Q := R_iconst (show mx_at 218 731 = some (.iconst 2, 1) by decide +kernel) (by decide)
set_option maxRecDepth 20000 in
theorem i218_732 : ex_ X d 218 732 [v0, v1, v2, v3] [.int y, .int x, w0, w1, w2, w3] h Q = ex_ X d 218 733 [v0, v1, v2, v3] [.int (x + y), w0, w1, w2, w3] h Q := ex_nx (show mx_at 218 732 = some (.iadd, 1) by decide +kernel) rfl
set_option maxRecDepth 20000 in
theorem i218_733 : ex_ X d 218 733 [v0, v1, v2, v3] [.int i, .ref a, w0, w1, w2] h Q = (ik_ h a i = true ∧ ex_ X d 218 734 [v0, v1, v2, v3] [.int (ia_ h a i), w0, w1, w2] h Q) := R_iald (show mx_at 218 733 = some (.iaload, 1) by decide +kernel)
set_option maxRecDepth 20000 in
theorem i218_733f : ex_ X d 218 733 [v0, v1, v2, v3] [.int i, .float 1, w0, w1, w2] h Q = (mx_in i X.1 = true ∧ ex_ X d 218 734 [v0, v1, v2, v3] [.int (X.2 i.toNatClampNeg), w0, w1, w2] h Q) := R_ialdx (show mx_at 218 733 = some (.iaload, 1) by decide +kernel) rfl
set_option maxRecDepth 20000 in
theorem i218_734 : ex_ X d 218 734 [.ref a, v1, v2, v3] [w0, w1, w2, w3] h Q = ex_ X d 218 735 [.ref a, v1, v2, v3] [.ref a, w0, w1, w2, w3] h Q := ex_nx (show mx_at 218 734 = some (.aload_n 0, 1) by decide +kernel) rfl
set_option maxRecDepth 20000 in
theorem i218_734f0 : ex_ X d 218 734 [.float 1, v1, v2, v3] [w0, w1, w2, w3] h Q = ex_ X d 218 735 [.float 1, v1, v2, v3] [.float 1, w0, w1, w2, w3] h Q := ex_nx (show mx_at 218 734 = some (.aload_n 0, 1) by decide +kernel) rfl
set_option maxRecDepth 20000 in
theorem i218_735 : ex_ X d 218 735 [v0, v1, v2, .int x] [w0, w1, w2, w3, w4] h Q = ex_ X d 218 736 [v0, v1, v2, .int x] [.int x, w0, w1, w2, w3, w4] h Q := ex_nx (show mx_at 218 735 = some (.iload_n 3, 1) by decide +kernel) rfl
set_option maxRecDepth 20000 in
theorem i218_736 : ex_ X d 218 736 [v0, v1, v2, v3] [w0, w1, w2, w3, w4, w5] h Q = ex_ X d 218 737 [v0, v1, v2, v3] [.int 3, w0, w1, w2, w3, w4, w5] h Q := R_iconst (show mx_at 218 736 = some (.iconst 3, 1) by decide +kernel) (by decide)
set_option maxRecDepth 20000 in
theorem i218_737 : ex_ X d 218 737 [v0, v1, v2, v3] [.int y, .int x, w0, w1, w2, w3, w4] h Q = ex_ X d 218 738 [v0, v1, v2, v3] [.int (x + y), w0, w1, w2, w3, w4] h Q := ex_nx (show mx_at 218 737 = some (.iadd, 1) by decide +kernel) rfl
set_option maxRecDepth 20000 in
theorem i218_738 : ex_ X d 218 738 [v0, v1, v2, v3] [.int i, .ref a, w0, w1, w2, w3] h Q = (ik_ h a i = true ∧ ex_ X d 218 739 [v0, v1, v2, v3] [.int (ia_ h a i), w0, w1, w2, w3] h Q) := R_iald (show mx_at 218 738 = some (.iaload, 1) by decide +kernel)
set_option maxRecDepth 20000 in
theorem i218_738f : ex_ X d 218 738 [v0, v1, v2, v3] [.int i, .float 1, w0, w1, w2, w3] h Q = (mx_in i X.1 = true ∧ ex_ X d 218 739 [v0, v1, v2, v3] [.int (X.2 i.toNatClampNeg), w0, w1, w2, w3] h Q) := R_ialdx (show mx_at 218 738 = some (.iaload, 1) by decide +kernel) rfl
set_option maxRecDepth 20000 in
theorem i218_739 (hc : co_ h a = some 12) : ex_ X (d + 1) 218 739 [v0, v1, v2, v3] [.int x2, .int x1, .int x0, .ref a, w0] h Q = ev_ X d 176 [.ref a, .int x0, .int x1, .int x2] h (fun r h' => ex_ X (d + 1) 218 742 [v0, v1, v2, v3] (r.toList ++ [w0]) h' Q) := R_vir (show mx_at 218 739 = some (.invokevirtual 79, 3) by decide +kernel) (mx_clk ow218 cc21_79) (Nat.le_of_ble_eq_true rfl) rfl rfl hc rfl (Nat.le_of_ble_eq_true rfl) (Nat.le_of_ble_eq_true rfl) (by rw [ml176]; exact Nat.le_of_ble_eq_true rfl)
set_option maxRecDepth 20000 in
theorem i218_742 : ex_ X d 218 742 [v0, v1, v2, v3] [.int y, .int x] h Q = if x = y then ex_ X d 218 1380 [v0, v1, v2, v3] [] h Q else ex_ X d 218 745 [v0, v1, v2, v3] [] h Q := (R_br (show mx_at 218 742 = some (.if_icmp .eq 638, 3) by decide +kernel) rfl rfl).trans mx_ite
set_option maxRecDepth 20000 in
theorem i218_745 : ex_ X d 218 745 [v0, v1, v2, v3] [] h Q = ex_ X d 218 746 [v0, v1, v2, v3] [.int 0] h Q := R_iconst (show mx_at 218 745 = some (.iconst 0, 1) by decide +kernel) (by decide)
set_option maxRecDepth 20000 in
theorem i218_746 (hx : x = 0 ∨ x = 1) : ex_ X d 218 746 [v0, v1, v2, v3] [.int x] h Q = Q (some (.int x)) h := ex_ret (show mx_at 218 746 = some (.ireturn, 1) by decide +kernel) (mx_retZ hx rt218)
set_option maxRecDepth 20000 in
theorem i218_747 : ex_ X d 218 747 [v0, .ref a, v2, v3] [] h Q = ex_ X d 218 748 [v0, .ref a, v2, v3] [.ref a] h Q := ex_nx (show mx_at 218 747 = some (.aload_n 1, 1) by decide +kernel) rfl
set_option maxRecDepth 20000 in
theorem i218_747f0 : ex_ X d 218 747 [v0, .float 1, v2, v3] [] h Q = ex_ X d 218 748 [v0, .float 1, v2, v3] [.float 1] h Q := ex_nx (show mx_at 218 747 = some (.aload_n 1, 1) by decide +kernel) rfl
set_option maxRecDepth 20000 in
theorem i218_748 : ex_ X d 218 748 [.ref a, v1, v2, v3] [w0] h Q = ex_ X d 218 749 [.ref a, v1, v2, v3] [.ref a, w0] h Q := ex_nx (show mx_at 218 748 = some (.aload_n 0, 1) by decide +kernel) rfl
set_option maxRecDepth 20000 in
theorem i218_748f0 : ex_ X d 218 748 [.float 1, v1, v2, v3] [w0] h Q = ex_ X d 218 749 [.float 1, v1, v2, v3] [.float 1, w0] h Q := ex_nx (show mx_at 218 748 = some (.aload_n 0, 1) by decide +kernel) rfl
set_option maxRecDepth 20000 in
theorem i218_749 : ex_ X d 218 749 [v0, v1, v2, .int x] [w0, w1] h Q = ex_ X d 218 750 [v0, v1, v2, .int x] [.int x, w0, w1] h Q := ex_nx (show mx_at 218 749 = some (.iload_n 3, 1) by decide +kernel) rfl
set_option maxRecDepth 20000 in
theorem i218_750 : ex_ X d 218 750 [v0, v1, v2, v3] [w0, w1, w2] h Q = ex_ X d 218 751 [v0, v1, v2, v3] [.int 1, w0, w1, w2] h Q := R_iconst (show mx_at 218 750 = some (.iconst 1, 1) by decide +kernel) (by decide)
set_option maxRecDepth 20000 in
theorem i218_751 : ex_ X d 218 751 [v0, v1, v2, v3] [.int y, .int x, w0, w1] h Q = ex_ X d 218 752 [v0, v1, v2, v3] [.int (x + y), w0, w1] h Q := ex_nx (show mx_at 218 751 = some (.iadd, 1) by decide +kernel) rfl
set_option maxRecDepth 20000 in
theorem i218_752 : ex_ X d 218 752 [v0, v1, v2, v3] [.int i, .ref a, w0] h Q = (ik_ h a i = true ∧ ex_ X d 218 753 [v0, v1, v2, v3] [.int (ia_ h a i), w0] h Q) := R_iald (show mx_at 218 752 = some (.iaload, 1) by decide +kernel)
set_option maxRecDepth 20000 in
theorem i218_752f : ex_ X d 218 752 [v0, v1, v2, v3] [.int i, .float 1, w0] h Q = (mx_in i X.1 = true ∧ ex_ X d 218 753 [v0, v1, v2, v3] [.int (X.2 i.toNatClampNeg), w0] h Q) := R_ialdx (show mx_at 218 752 = some (.iaload, 1) by decide +kernel) rfl
set_option maxRecDepth 20000 in
theorem i218_753 : ex_ X d 218 753 [.ref a, v1, v2, v3] [w0, w1] h Q = ex_ X d 218 754 [.ref a, v1, v2, v3] [.ref a, w0, w1] h Q := ex_nx (show mx_at 218 753 = some (.aload_n 0, 1) by decide +kernel) rfl
set_option maxRecDepth 20000 in
theorem i218_753f0 : ex_ X d 218 753 [.float 1, v1, v2, v3] [w0, w1] h Q = ex_ X d 218 754 [.float 1, v1, v2, v3] [.float 1, w0, w1] h Q := ex_nx (show mx_at 218 753 = some (.aload_n 0, 1) by decide +kernel) rfl
set_option maxRecDepth 20000 in
theorem i218_754 : ex_ X d 218 754 [v0, v1, v2, .int x] [w0, w1, w2] h Q = ex_ X d 218 755 [v0, v1, v2, .int x] [.int x, w0, w1, w2] h Q := ex_nx (show mx_at 218 754 = some (.iload_n 3, 1) by decide +kernel) rfl
set_option maxRecDepth 20000 in
theorem i218_755 : ex_ X d 218 755 [v0, v1, v2, v3] [w0, w1, w2, w3] h Q = ex_ X d 218 756 [v0, v1, v2, v3] [.int 2, w0, w1, w2, w3] h Q := R_iconst (show mx_at 218 755 = some (.iconst 2, 1) by decide +kernel) (by decide)
set_option maxRecDepth 20000 in
theorem i218_756 : ex_ X d 218 756 [v0, v1, v2, v3] [.int y, .int x, w0, w1, w2] h Q = ex_ X d 218 757 [v0, v1, v2, v3] [.int (x + y), w0, w1, w2] h Q := ex_nx (show mx_at 218 756 = some (.iadd, 1) by decide +kernel) rfl
set_option maxRecDepth 20000 in
theorem i218_757 : ex_ X d 218 757 [v0, v1, v2, v3] [.int i, .ref a, w0, w1] h Q = (ik_ h a i = true ∧ ex_ X d 218 758 [v0, v1, v2, v3] [.int (ia_ h a i), w0, w1] h Q) := R_iald (show mx_at 218 757 = some (.iaload, 1) by decide +kernel)
set_option maxRecDepth 20000 in
theorem i218_757f : ex_ X d 218 757 [v0, v1, v2, v3] [.int i, .float 1, w0, w1] h Q = (mx_in i X.1 = true ∧ ex_ X d 218 758 [v0, v1, v2, v3] [.int (X.2 i.toNatClampNeg), w0, w1] h Q) := R_ialdx (show mx_at 218 757 = some (.iaload, 1) by decide +kernel) rfl
set_option maxRecDepth 20000 in
theorem i218_758 (hc : co_ h a = some 11) : ex_ X (d + 1) 218 758 [v0, v1, v2, v3] [.int x1, .int x0, .ref a] h Q = ev_ X d 85 [.ref a, .int x0, .int x1] h (fun r h' => ex_ X (d + 1) 218 761 [v0, v1, v2, v3] (r.toList ++ []) h' Q) := R_vir (show mx_at 218 758 = some (.invokevirtual 80, 3) by decide +kernel) (mx_clk ow218 cc21_80) (Nat.le_of_ble_eq_true rfl) rfl rfl hc rfl (Nat.le_of_ble_eq_true rfl) (Nat.le_of_ble_eq_true rfl) (by rw [ml85]; exact Nat.le_of_ble_eq_true rfl)
set_option maxRecDepth 20000 in
theorem i218_761 : ex_ X d 218 761 [v0, v1, .ref a, v3] [w0] h Q = ex_ X d 218 762 [v0, v1, .ref a, v3] [.ref a, w0] h Q := ex_nx (show mx_at 218 761 = some (.aload_n 2, 1) by decide +kernel) rfl
set_option maxRecDepth 20000 in
theorem i218_761f0 : ex_ X d 218 761 [v0, v1, .float 1, v3] [w0] h Q = ex_ X d 218 762 [v0, v1, .float 1, v3] [.float 1, w0] h Q := ex_nx (show mx_at 218 761 = some (.aload_n 2, 1) by decide +kernel) rfl
set_option maxRecDepth 20000 in
theorem i218_762 : ex_ X d 218 762 [.ref a, v1, v2, v3] [w0, w1] h Q = ex_ X d 218 763 [.ref a, v1, v2, v3] [.ref a, w0, w1] h Q := ex_nx (show mx_at 218 762 = some (.aload_n 0, 1) by decide +kernel) rfl
set_option maxRecDepth 20000 in
theorem i218_762f0 : ex_ X d 218 762 [.float 1, v1, v2, v3] [w0, w1] h Q = ex_ X d 218 763 [.float 1, v1, v2, v3] [.float 1, w0, w1] h Q := ex_nx (show mx_at 218 762 = some (.aload_n 0, 1) by decide +kernel) rfl
set_option maxRecDepth 20000 in
theorem i218_763 : ex_ X d 218 763 [v0, v1, v2, .int x] [w0, w1, w2] h Q = ex_ X d 218 764 [v0, v1, v2, .int x] [.int x, w0, w1, w2] h Q := ex_nx (show mx_at 218 763 = some (.iload_n 3, 1) by decide +kernel) rfl
set_option maxRecDepth 20000 in
theorem i218_764 : ex_ X d 218 764 [v0, v1, v2, v3] [w0, w1, w2, w3] h Q = ex_ X d 218 765 [v0, v1, v2, v3] [.int 1, w0, w1, w2, w3] h Q := R_iconst (show mx_at 218 764 = some (.iconst 1, 1) by decide +kernel) (by decide)
set_option maxRecDepth 20000 in
theorem i218_765 : ex_ X d 218 765 [v0, v1, v2, v3] [.int y, .int x, w0, w1, w2] h Q = ex_ X d 218 766 [v0, v1, v2, v3] [.int (x + y), w0, w1, w2] h Q := ex_nx (show mx_at 218 765 = some (.iadd, 1) by decide +kernel) rfl
set_option maxRecDepth 20000 in
theorem i218_766 : ex_ X d 218 766 [v0, v1, v2, v3] [.int i, .ref a, w0, w1] h Q = (ik_ h a i = true ∧ ex_ X d 218 767 [v0, v1, v2, v3] [.int (ia_ h a i), w0, w1] h Q) := R_iald (show mx_at 218 766 = some (.iaload, 1) by decide +kernel)
set_option maxRecDepth 20000 in
theorem i218_766f : ex_ X d 218 766 [v0, v1, v2, v3] [.int i, .float 1, w0, w1] h Q = (mx_in i X.1 = true ∧ ex_ X d 218 767 [v0, v1, v2, v3] [.int (X.2 i.toNatClampNeg), w0, w1] h Q) := R_ialdx (show mx_at 218 766 = some (.iaload, 1) by decide +kernel) rfl
set_option maxRecDepth 20000 in
theorem i218_767 : ex_ X d 218 767 [.ref a, v1, v2, v3] [w0, w1, w2] h Q = ex_ X d 218 768 [.ref a, v1, v2, v3] [.ref a, w0, w1, w2] h Q := ex_nx (show mx_at 218 767 = some (.aload_n 0, 1) by decide +kernel) rfl
set_option maxRecDepth 20000 in
theorem i218_767f0 : ex_ X d 218 767 [.float 1, v1, v2, v3] [w0, w1, w2] h Q = ex_ X d 218 768 [.float 1, v1, v2, v3] [.float 1, w0, w1, w2] h Q := ex_nx (show mx_at 218 767 = some (.aload_n 0, 1) by decide +kernel) rfl
set_option maxRecDepth 20000 in
theorem i218_768 : ex_ X d 218 768 [v0, v1, v2, .int x] [w0, w1, w2, w3] h Q = ex_ X d 218 769 [v0, v1, v2, .int x] [.int x, w0, w1, w2, w3] h Q := ex_nx (show mx_at 218 768 = some (.iload_n 3, 1) by decide +kernel) rfl
set_option maxRecDepth 20000 in
theorem i218_769 : ex_ X d 218 769 [v0, v1, v2, v3] [w0, w1, w2, w3, w4] h Q = ex_ X d 218 770 [v0, v1, v2, v3] [.int 2, w0, w1, w2, w3, w4] h Q := R_iconst (show mx_at 218 769 = some (.iconst 2, 1) by decide +kernel) (by decide)
set_option maxRecDepth 20000 in
theorem i218_770 : ex_ X d 218 770 [v0, v1, v2, v3] [.int y, .int x, w0, w1, w2, w3] h Q = ex_ X d 218 771 [v0, v1, v2, v3] [.int (x + y), w0, w1, w2, w3] h Q := ex_nx (show mx_at 218 770 = some (.iadd, 1) by decide +kernel) rfl
set_option maxRecDepth 20000 in
theorem i218_771 : ex_ X d 218 771 [v0, v1, v2, v3] [.int i, .ref a, w0, w1, w2] h Q = (ik_ h a i = true ∧ ex_ X d 218 772 [v0, v1, v2, v3] [.int (ia_ h a i), w0, w1, w2] h Q) := R_iald (show mx_at 218 771 = some (.iaload, 1) by decide +kernel)
set_option maxRecDepth 20000 in
theorem i218_771f : ex_ X d 218 771 [v0, v1, v2, v3] [.int i, .float 1, w0, w1, w2] h Q = (mx_in i X.1 = true ∧ ex_ X d 218 772 [v0, v1, v2, v3] [.int (X.2 i.toNatClampNeg), w0, w1, w2] h Q) := R_ialdx (show mx_at 218 771 = some (.iaload, 1) by decide +kernel) rfl
set_option maxRecDepth 20000 in
theorem i218_772 (hc : co_ h a = some 12) : ex_ X (d + 1) 218 772 [v0, v1, v2, v3] [.int x1, .int x0, .ref a, w0] h Q = ev_ X d 177 [.ref a, .int x0, .int x1] h (fun r h' => ex_ X (d + 1) 218 775 [v0, v1, v2, v3] (r.toList ++ [w0]) h' Q) := R_vir (show mx_at 218 772 = some (.invokevirtual 83, 3) by decide +kernel) (mx_clk ow218 cc21_83) (Nat.le_of_ble_eq_true rfl) rfl rfl hc rfl (Nat.le_of_ble_eq_true rfl) (Nat.le_of_ble_eq_true rfl) (by rw [ml177]; exact Nat.le_of_ble_eq_true rfl)
set_option maxRecDepth 20000 in
theorem i218_775 : ex_ X d 218 775 [v0, v1, v2, v3] [.int y, .int x] h Q = if x = y then ex_ X d 218 1380 [v0, v1, v2, v3] [] h Q else ex_ X d 218 778 [v0, v1, v2, v3] [] h Q := (R_br (show mx_at 218 775 = some (.if_icmp .eq 605, 3) by decide +kernel) rfl rfl).trans mx_ite
set_option maxRecDepth 20000 in
theorem i218_778 : ex_ X d 218 778 [v0, v1, v2, v3] [] h Q = ex_ X d 218 779 [v0, v1, v2, v3] [.int 0] h Q := R_iconst (show mx_at 218 778 = some (.iconst 0, 1) by decide +kernel) (by decide)
set_option maxRecDepth 20000 in
theorem i218_779 (hx : x = 0 ∨ x = 1) : ex_ X d 218 779 [v0, v1, v2, v3] [.int x] h Q = Q (some (.int x)) h := ex_ret (show mx_at 218 779 = some (.ireturn, 1) by decide +kernel) (mx_retZ hx rt218)
set_option maxRecDepth 20000 in
theorem i218_780 : ex_ X d 218 780 [v0, .ref a, v2, v3] [] h Q = ex_ X d 218 781 [v0, .ref a, v2, v3] [.ref a] h Q := ex_nx (show mx_at 218 780 = some (.aload_n 1, 1) by decide +kernel) rfl
set_option maxRecDepth 20000 in
theorem i218_780f0 : ex_ X d 218 780 [v0, .float 1, v2, v3] [] h Q = ex_ X d 218 781 [v0, .float 1, v2, v3] [.float 1] h Q := ex_nx (show mx_at 218 780 = some (.aload_n 1, 1) by decide +kernel) rfl
set_option maxRecDepth 20000 in
theorem i218_781 : ex_ X d 218 781 [.ref a, v1, v2, v3] [w0] h Q = ex_ X d 218 782 [.ref a, v1, v2, v3] [.ref a, w0] h Q := ex_nx (show mx_at 218 781 = some (.aload_n 0, 1) by decide +kernel) rfl
set_option maxRecDepth 20000 in
theorem i218_781f0 : ex_ X d 218 781 [.float 1, v1, v2, v3] [w0] h Q = ex_ X d 218 782 [.float 1, v1, v2, v3] [.float 1, w0] h Q := ex_nx (show mx_at 218 781 = some (.aload_n 0, 1) by decide +kernel) rfl
set_option maxRecDepth 20000 in
theorem i218_782 : ex_ X d 218 782 [v0, v1, v2, .int x] [w0, w1] h Q = ex_ X d 218 783 [v0, v1, v2, .int x] [.int x, w0, w1] h Q := ex_nx (show mx_at 218 782 = some (.iload_n 3, 1) by decide +kernel) rfl
set_option maxRecDepth 20000 in
theorem i218_783 : ex_ X d 218 783 [v0, v1, v2, v3] [w0, w1, w2] h Q = ex_ X d 218 784 [v0, v1, v2, v3] [.int 1, w0, w1, w2] h Q := R_iconst (show mx_at 218 783 = some (.iconst 1, 1) by decide +kernel) (by decide)
set_option maxRecDepth 20000 in
theorem i218_784 : ex_ X d 218 784 [v0, v1, v2, v3] [.int y, .int x, w0, w1] h Q = ex_ X d 218 785 [v0, v1, v2, v3] [.int (x + y), w0, w1] h Q := ex_nx (show mx_at 218 784 = some (.iadd, 1) by decide +kernel) rfl
set_option maxRecDepth 20000 in
theorem i218_785 : ex_ X d 218 785 [v0, v1, v2, v3] [.int i, .ref a, w0] h Q = (ik_ h a i = true ∧ ex_ X d 218 786 [v0, v1, v2, v3] [.int (ia_ h a i), w0] h Q) := R_iald (show mx_at 218 785 = some (.iaload, 1) by decide +kernel)
set_option maxRecDepth 20000 in
theorem i218_785f : ex_ X d 218 785 [v0, v1, v2, v3] [.int i, .float 1, w0] h Q = (mx_in i X.1 = true ∧ ex_ X d 218 786 [v0, v1, v2, v3] [.int (X.2 i.toNatClampNeg), w0] h Q) := R_ialdx (show mx_at 218 785 = some (.iaload, 1) by decide +kernel) rfl
set_option maxRecDepth 20000 in
theorem i218_786 (hc : co_ h a = some 11) : ex_ X (d + 1) 218 786 [v0, v1, v2, v3] [.int x0, .ref a] h Q = ev_ X d 86 [.ref a, .int x0] h (fun r h' => ex_ X (d + 1) 218 789 [v0, v1, v2, v3] (r.toList ++ []) h' Q) := R_vir (show mx_at 218 786 = some (.invokevirtual 84, 3) by decide +kernel) (mx_clk ow218 cc21_84) (Nat.le_of_ble_eq_true rfl) rfl rfl hc rfl (Nat.le_of_ble_eq_true rfl) (Nat.le_of_ble_eq_true rfl) (by rw [ml86]; exact Nat.le_of_ble_eq_true rfl)
set_option maxRecDepth 20000 in
theorem i218_789 : ex_ X d 218 789 [v0, v1, .ref a, v3] [w0] h Q = ex_ X d 218 790 [v0, v1, .ref a, v3] [.ref a, w0] h Q := ex_nx (show mx_at 218 789 = some (.aload_n 2, 1) by decide +kernel) rfl
set_option maxRecDepth 20000 in
theorem i218_789f0 : ex_ X d 218 789 [v0, v1, .float 1, v3] [w0] h Q = ex_ X d 218 790 [v0, v1, .float 1, v3] [.float 1, w0] h Q := ex_nx (show mx_at 218 789 = some (.aload_n 2, 1) by decide +kernel) rfl
set_option maxRecDepth 20000 in
theorem i218_790 : ex_ X d 218 790 [.ref a, v1, v2, v3] [w0, w1] h Q = ex_ X d 218 791 [.ref a, v1, v2, v3] [.ref a, w0, w1] h Q := ex_nx (show mx_at 218 790 = some (.aload_n 0, 1) by decide +kernel) rfl
set_option maxRecDepth 20000 in
theorem i218_790f0 : ex_ X d 218 790 [.float 1, v1, v2, v3] [w0, w1] h Q = ex_ X d 218 791 [.float 1, v1, v2, v3] [.float 1, w0, w1] h Q := ex_nx (show mx_at 218 790 = some (.aload_n 0, 1) by decide +kernel) rfl
set_option maxRecDepth 20000 in
theorem i218_791 : ex_ X d 218 791 [v0, v1, v2, .int x] [w0, w1, w2] h Q = ex_ X d 218 792 [v0, v1, v2, .int x] [.int x, w0, w1, w2] h Q := ex_nx (show mx_at 218 791 = some (.iload_n 3, 1) by decide +kernel) rfl
set_option maxRecDepth 20000 in
theorem i218_792 : ex_ X d 218 792 [v0, v1, v2, v3] [w0, w1, w2, w3] h Q = ex_ X d 218 793 [v0, v1, v2, v3] [.int 1, w0, w1, w2, w3] h Q := R_iconst (show mx_at 218 792 = some (.iconst 1, 1) by decide +kernel) (by decide)
set_option maxRecDepth 20000 in
theorem i218_793 : ex_ X d 218 793 [v0, v1, v2, v3] [.int y, .int x, w0, w1, w2] h Q = ex_ X d 218 794 [v0, v1, v2, v3] [.int (x + y), w0, w1, w2] h Q := ex_nx (show mx_at 218 793 = some (.iadd, 1) by decide +kernel) rfl
set_option maxRecDepth 20000 in
theorem i218_794 : ex_ X d 218 794 [v0, v1, v2, v3] [.int i, .ref a, w0, w1] h Q = (ik_ h a i = true ∧ ex_ X d 218 795 [v0, v1, v2, v3] [.int (ia_ h a i), w0, w1] h Q) := R_iald (show mx_at 218 794 = some (.iaload, 1) by decide +kernel)
set_option maxRecDepth 20000 in
theorem i218_794f : ex_ X d 218 794 [v0, v1, v2, v3] [.int i, .float 1, w0, w1] h Q = (mx_in i X.1 = true ∧ ex_ X d 218 795 [v0, v1, v2, v3] [.int (X.2 i.toNatClampNeg), w0, w1] h Q) := R_ialdx (show mx_at 218 794 = some (.iaload, 1) by decide +kernel) rfl
set_option maxRecDepth 20000 in
theorem i218_795 (hc : co_ h a = some 12) : ex_ X (d + 1) 218 795 [v0, v1, v2, v3] [.int x0, .ref a, w0] h Q = ev_ X d 179 [.ref a, .int x0] h (fun r h' => ex_ X (d + 1) 218 798 [v0, v1, v2, v3] (r.toList ++ [w0]) h' Q) := R_vir (show mx_at 218 795 = some (.invokevirtual 87, 3) by decide +kernel) (mx_clk ow218 cc21_87) (Nat.le_of_ble_eq_true rfl) rfl rfl hc rfl (Nat.le_of_ble_eq_true rfl) (Nat.le_of_ble_eq_true rfl) (by rw [ml179]; exact Nat.le_of_ble_eq_true rfl)
set_option maxRecDepth 20000 in
theorem i218_798 : ex_ X d 218 798 [v0, v1, v2, v3] [.int y, .int x] h Q = if x = y then ex_ X d 218 1380 [v0, v1, v2, v3] [] h Q else ex_ X d 218 801 [v0, v1, v2, v3] [] h Q := (R_br (show mx_at 218 798 = some (.if_icmp .eq 582, 3) by decide +kernel) rfl rfl).trans mx_ite
set_option maxRecDepth 20000 in
theorem i218_801 : ex_ X d 218 801 [v0, v1, v2, v3] [] h Q = ex_ X d 218 802 [v0, v1, v2, v3] [.int 0] h Q := R_iconst (show mx_at 218 801 = some (.iconst 0, 1) by decide +kernel) (by decide)
set_option maxRecDepth 20000 in
theorem i218_802 (hx : x = 0 ∨ x = 1) : ex_ X d 218 802 [v0, v1, v2, v3] [.int x] h Q = Q (some (.int x)) h := ex_ret (show mx_at 218 802 = some (.ireturn, 1) by decide +kernel) (mx_retZ hx rt218)
set_option maxRecDepth 20000 in
theorem i218_803 : ex_ X d 218 803 [v0, .ref a, v2, v3] [] h Q = ex_ X d 218 804 [v0, .ref a, v2, v3] [.ref a] h Q := ex_nx (show mx_at 218 803 = some (.aload_n 1, 1) by decide +kernel) rfl
set_option maxRecDepth 20000 in
theorem i218_803f0 : ex_ X d 218 803 [v0, .float 1, v2, v3] [] h Q = ex_ X d 218 804 [v0, .float 1, v2, v3] [.float 1] h Q := ex_nx (show mx_at 218 803 = some (.aload_n 1, 1) by decide +kernel) rfl
set_option maxRecDepth 20000 in
theorem i218_804 : ex_ X d 218 804 [.ref a, v1, v2, v3] [w0] h Q = ex_ X d 218 805 [.ref a, v1, v2, v3] [.ref a, w0] h Q := ex_nx (show mx_at 218 804 = some (.aload_n 0, 1) by decide +kernel) rfl
set_option maxRecDepth 20000 in
theorem i218_804f0 : ex_ X d 218 804 [.float 1, v1, v2, v3] [w0] h Q = ex_ X d 218 805 [.float 1, v1, v2, v3] [.float 1, w0] h Q := ex_nx (show mx_at 218 804 = some (.aload_n 0, 1) by decide +kernel) rfl
set_option maxRecDepth 20000 in
theorem i218_805 : ex_ X d 218 805 [v0, v1, v2, .int x] [w0, w1] h Q = ex_ X d 218 806 [v0, v1, v2, .int x] [.int x, w0, w1] h Q := ex_nx (show mx_at 218 805 = some (.iload_n 3, 1) by decide +kernel) rfl
set_option maxRecDepth 20000 in
theorem i218_806 : ex_ X d 218 806 [v0, v1, v2, v3] [w0, w1, w2] h Q = ex_ X d 218 807 [v0, v1, v2, v3] [.int 1, w0, w1, w2] h Q := R_iconst (show mx_at 218 806 = some (.iconst 1, 1) by decide +kernel) (by decide)
set_option maxRecDepth 20000 in
theorem i218_807 : ex_ X d 218 807 [v0, v1, v2, v3] [.int y, .int x, w0, w1] h Q = ex_ X d 218 808 [v0, v1, v2, v3] [.int (x + y), w0, w1] h Q := ex_nx (show mx_at 218 807 = some (.iadd, 1) by decide +kernel) rfl
set_option maxRecDepth 20000 in
theorem i218_808 : ex_ X d 218 808 [v0, v1, v2, v3] [.int i, .ref a, w0] h Q = (ik_ h a i = true ∧ ex_ X d 218 809 [v0, v1, v2, v3] [.int (ia_ h a i), w0] h Q) := R_iald (show mx_at 218 808 = some (.iaload, 1) by decide +kernel)
set_option maxRecDepth 20000 in
theorem i218_808f : ex_ X d 218 808 [v0, v1, v2, v3] [.int i, .float 1, w0] h Q = (mx_in i X.1 = true ∧ ex_ X d 218 809 [v0, v1, v2, v3] [.int (X.2 i.toNatClampNeg), w0] h Q) := R_ialdx (show mx_at 218 808 = some (.iaload, 1) by decide +kernel) rfl
set_option maxRecDepth 20000 in
theorem i218_809 (hc : co_ h a = some 11) : ex_ X (d + 1) 218 809 [v0, v1, v2, v3] [.int x0, .ref a] h Q = ev_ X d 87 [.ref a, .int x0] h (fun r h' => ex_ X (d + 1) 218 812 [v0, v1, v2, v3] (r.toList ++ []) h' Q) := R_vir (show mx_at 218 809 = some (.invokevirtual 88, 3) by decide +kernel) (mx_clk ow218 cc21_88) (Nat.le_of_ble_eq_true rfl) rfl rfl hc rfl (Nat.le_of_ble_eq_true rfl) (Nat.le_of_ble_eq_true rfl) (by rw [ml87]; exact Nat.le_of_ble_eq_true rfl)
set_option maxRecDepth 20000 in
theorem i218_812 : ex_ X d 218 812 [v0, v1, .ref a, v3] [w0] h Q = ex_ X d 218 813 [v0, v1, .ref a, v3] [.ref a, w0] h Q := ex_nx (show mx_at 218 812 = some (.aload_n 2, 1) by decide +kernel) rfl
set_option maxRecDepth 20000 in
theorem i218_812f0 : ex_ X d 218 812 [v0, v1, .float 1, v3] [w0] h Q = ex_ X d 218 813 [v0, v1, .float 1, v3] [.float 1, w0] h Q := ex_nx (show mx_at 218 812 = some (.aload_n 2, 1) by decide +kernel) rfl
set_option maxRecDepth 20000 in
theorem i218_813 : ex_ X d 218 813 [.ref a, v1, v2, v3] [w0, w1] h Q = ex_ X d 218 814 [.ref a, v1, v2, v3] [.ref a, w0, w1] h Q := ex_nx (show mx_at 218 813 = some (.aload_n 0, 1) by decide +kernel) rfl
set_option maxRecDepth 20000 in
theorem i218_813f0 : ex_ X d 218 813 [.float 1, v1, v2, v3] [w0, w1] h Q = ex_ X d 218 814 [.float 1, v1, v2, v3] [.float 1, w0, w1] h Q := ex_nx (show mx_at 218 813 = some (.aload_n 0, 1) by decide +kernel) rfl
set_option maxRecDepth 20000 in
theorem i218_814 : ex_ X d 218 814 [v0, v1, v2, .int x] [w0, w1, w2] h Q = ex_ X d 218 815 [v0, v1, v2, .int x] [.int x, w0, w1, w2] h Q := ex_nx (show mx_at 218 814 = some (.iload_n 3, 1) by decide +kernel) rfl
set_option maxRecDepth 20000 in
theorem i218_815 : ex_ X d 218 815 [v0, v1, v2, v3] [w0, w1, w2, w3] h Q = ex_ X d 218 816 [v0, v1, v2, v3] [.int 1, w0, w1, w2, w3] h Q := R_iconst (show mx_at 218 815 = some (.iconst 1, 1) by decide +kernel) (by decide)
set_option maxRecDepth 20000 in
theorem i218_816 : ex_ X d 218 816 [v0, v1, v2, v3] [.int y, .int x, w0, w1, w2] h Q = ex_ X d 218 817 [v0, v1, v2, v3] [.int (x + y), w0, w1, w2] h Q := ex_nx (show mx_at 218 816 = some (.iadd, 1) by decide +kernel) rfl
set_option maxRecDepth 20000 in
theorem i218_817 : ex_ X d 218 817 [v0, v1, v2, v3] [.int i, .ref a, w0, w1] h Q = (ik_ h a i = true ∧ ex_ X d 218 818 [v0, v1, v2, v3] [.int (ia_ h a i), w0, w1] h Q) := R_iald (show mx_at 218 817 = some (.iaload, 1) by decide +kernel)
set_option maxRecDepth 20000 in
theorem i218_817f : ex_ X d 218 817 [v0, v1, v2, v3] [.int i, .float 1, w0, w1] h Q = (mx_in i X.1 = true ∧ ex_ X d 218 818 [v0, v1, v2, v3] [.int (X.2 i.toNatClampNeg), w0, w1] h Q) := R_ialdx (show mx_at 218 817 = some (.iaload, 1) by decide +kernel) rfl
set_option maxRecDepth 20000 in
theorem i218_818 (hc : co_ h a = some 12) : ex_ X (d + 1) 218 818 [v0, v1, v2, v3] [.int x0, .ref a, w0] h Q = ev_ X d 180 [.ref a, .int x0] h (fun r h' => ex_ X (d + 1) 218 821 [v0, v1, v2, v3] (r.toList ++ [w0]) h' Q) := R_vir (show mx_at 218 818 = some (.invokevirtual 91, 3) by decide +kernel) (mx_clk ow218 cc21_91) (Nat.le_of_ble_eq_true rfl) rfl rfl hc rfl (Nat.le_of_ble_eq_true rfl) (Nat.le_of_ble_eq_true rfl) (by rw [ml180]; exact Nat.le_of_ble_eq_true rfl)
set_option maxRecDepth 20000 in
theorem i218_821 : ex_ X d 218 821 [v0, v1, v2, v3] [.int y, .int x] h Q = if x = y then ex_ X d 218 1380 [v0, v1, v2, v3] [] h Q else ex_ X d 218 824 [v0, v1, v2, v3] [] h Q := (R_br (show mx_at 218 821 = some (.if_icmp .eq 559, 3) by decide +kernel) rfl rfl).trans mx_ite
set_option maxRecDepth 20000 in
theorem i218_824 : ex_ X d 218 824 [v0, v1, v2, v3] [] h Q = ex_ X d 218 825 [v0, v1, v2, v3] [.int 0] h Q := R_iconst (show mx_at 218 824 = some (.iconst 0, 1) by decide +kernel) (by decide)
set_option maxRecDepth 20000 in
theorem i218_825 (hx : x = 0 ∨ x = 1) : ex_ X d 218 825 [v0, v1, v2, v3] [.int x] h Q = Q (some (.int x)) h := ex_ret (show mx_at 218 825 = some (.ireturn, 1) by decide +kernel) (mx_retZ hx rt218)
set_option maxRecDepth 20000 in
theorem i218_826 : ex_ X d 218 826 [v0, .ref a, v2, v3] [] h Q = ex_ X d 218 827 [v0, .ref a, v2, v3] [.ref a] h Q := ex_nx (show mx_at 218 826 = some (.aload_n 1, 1) by decide +kernel) rfl
set_option maxRecDepth 20000 in
theorem i218_826f0 : ex_ X d 218 826 [v0, .float 1, v2, v3] [] h Q = ex_ X d 218 827 [v0, .float 1, v2, v3] [.float 1] h Q := ex_nx (show mx_at 218 826 = some (.aload_n 1, 1) by decide +kernel) rfl
set_option maxRecDepth 20000 in
theorem i218_827 : ex_ X d 218 827 [.ref a, v1, v2, v3] [w0] h Q = ex_ X d 218 828 [.ref a, v1, v2, v3] [.ref a, w0] h Q := ex_nx (show mx_at 218 827 = some (.aload_n 0, 1) by decide +kernel) rfl
set_option maxRecDepth 20000 in
theorem i218_827f0 : ex_ X d 218 827 [.float 1, v1, v2, v3] [w0] h Q = ex_ X d 218 828 [.float 1, v1, v2, v3] [.float 1, w0] h Q := ex_nx (show mx_at 218 827 = some (.aload_n 0, 1) by decide +kernel) rfl
set_option maxRecDepth 20000 in
theorem i218_828 : ex_ X d 218 828 [v0, v1, v2, .int x] [w0, w1] h Q = ex_ X d 218 829 [v0, v1, v2, .int x] [.int x, w0, w1] h Q := ex_nx (show mx_at 218 828 = some (.iload_n 3, 1) by decide +kernel) rfl
set_option maxRecDepth 20000 in
theorem i218_829 : ex_ X d 218 829 [v0, v1, v2, v3] [w0, w1, w2] h Q = ex_ X d 218 830 [v0, v1, v2, v3] [.int 1, w0, w1, w2] h Q := R_iconst (show mx_at 218 829 = some (.iconst 1, 1) by decide +kernel) (by decide)
set_option maxRecDepth 20000 in
theorem i218_830 : ex_ X d 218 830 [v0, v1, v2, v3] [.int y, .int x, w0, w1] h Q = ex_ X d 218 831 [v0, v1, v2, v3] [.int (x + y), w0, w1] h Q := ex_nx (show mx_at 218 830 = some (.iadd, 1) by decide +kernel) rfl
set_option maxRecDepth 20000 in
theorem i218_831 : ex_ X d 218 831 [v0, v1, v2, v3] [.int i, .ref a, w0] h Q = (ik_ h a i = true ∧ ex_ X d 218 832 [v0, v1, v2, v3] [.int (ia_ h a i), w0] h Q) := R_iald (show mx_at 218 831 = some (.iaload, 1) by decide +kernel)
set_option maxRecDepth 20000 in
theorem i218_831f : ex_ X d 218 831 [v0, v1, v2, v3] [.int i, .float 1, w0] h Q = (mx_in i X.1 = true ∧ ex_ X d 218 832 [v0, v1, v2, v3] [.int (X.2 i.toNatClampNeg), w0] h Q) := R_ialdx (show mx_at 218 831 = some (.iaload, 1) by decide +kernel) rfl
set_option maxRecDepth 20000 in
theorem i218_832 : ex_ X d 218 832 [.ref a, v1, v2, v3] [w0, w1] h Q = ex_ X d 218 833 [.ref a, v1, v2, v3] [.ref a, w0, w1] h Q := ex_nx (show mx_at 218 832 = some (.aload_n 0, 1) by decide +kernel) rfl
set_option maxRecDepth 20000 in
theorem i218_832f0 : ex_ X d 218 832 [.float 1, v1, v2, v3] [w0, w1] h Q = ex_ X d 218 833 [.float 1, v1, v2, v3] [.float 1, w0, w1] h Q := ex_nx (show mx_at 218 832 = some (.aload_n 0, 1) by decide +kernel) rfl
set_option maxRecDepth 20000 in
theorem i218_833 : ex_ X d 218 833 [v0, v1, v2, .int x] [w0, w1, w2] h Q = ex_ X d 218 834 [v0, v1, v2, .int x] [.int x, w0, w1, w2] h Q := ex_nx (show mx_at 218 833 = some (.iload_n 3, 1) by decide +kernel) rfl
set_option maxRecDepth 20000 in
theorem i218_834 : ex_ X d 218 834 [v0, v1, v2, v3] [w0, w1, w2, w3] h Q = ex_ X d 218 835 [v0, v1, v2, v3] [.int 2, w0, w1, w2, w3] h Q := R_iconst (show mx_at 218 834 = some (.iconst 2, 1) by decide +kernel) (by decide)
set_option maxRecDepth 20000 in
theorem i218_835 : ex_ X d 218 835 [v0, v1, v2, v3] [.int y, .int x, w0, w1, w2] h Q = ex_ X d 218 836 [v0, v1, v2, v3] [.int (x + y), w0, w1, w2] h Q := ex_nx (show mx_at 218 835 = some (.iadd, 1) by decide +kernel) rfl
set_option maxRecDepth 20000 in
theorem i218_836 : ex_ X d 218 836 [v0, v1, v2, v3] [.int i, .ref a, w0, w1] h Q = (ik_ h a i = true ∧ ex_ X d 218 837 [v0, v1, v2, v3] [.int (ia_ h a i), w0, w1] h Q) := R_iald (show mx_at 218 836 = some (.iaload, 1) by decide +kernel)
set_option maxRecDepth 20000 in
theorem i218_836f : ex_ X d 218 836 [v0, v1, v2, v3] [.int i, .float 1, w0, w1] h Q = (mx_in i X.1 = true ∧ ex_ X d 218 837 [v0, v1, v2, v3] [.int (X.2 i.toNatClampNeg), w0, w1] h Q) := R_ialdx (show mx_at 218 836 = some (.iaload, 1) by decide +kernel) rfl
set_option maxRecDepth 20000 in
theorem i218_837 (hc : co_ h a = some 11) : ex_ X (d + 1) 218 837 [v0, v1, v2, v3] [.int x1, .int x0, .ref a] h Q = ev_ X d 88 [.ref a, .int x0, .int x1] h (fun r h' => ex_ X (d + 1) 218 840 [v0, v1, v2, v3] (r.toList ++ []) h' Q) := R_vir (show mx_at 218 837 = some (.invokevirtual 92, 3) by decide +kernel) (mx_clk ow218 cc21_92) (Nat.le_of_ble_eq_true rfl) rfl rfl hc rfl (Nat.le_of_ble_eq_true rfl) (Nat.le_of_ble_eq_true rfl) (by rw [ml88]; exact Nat.le_of_ble_eq_true rfl)
set_option maxRecDepth 20000 in
theorem i218_840 : ex_ X d 218 840 [v0, v1, .ref a, v3] [w0] h Q = ex_ X d 218 841 [v0, v1, .ref a, v3] [.ref a, w0] h Q := ex_nx (show mx_at 218 840 = some (.aload_n 2, 1) by decide +kernel) rfl
set_option maxRecDepth 20000 in
theorem i218_840f0 : ex_ X d 218 840 [v0, v1, .float 1, v3] [w0] h Q = ex_ X d 218 841 [v0, v1, .float 1, v3] [.float 1, w0] h Q := ex_nx (show mx_at 218 840 = some (.aload_n 2, 1) by decide +kernel) rfl
set_option maxRecDepth 20000 in
theorem i218_841 : ex_ X d 218 841 [.ref a, v1, v2, v3] [w0, w1] h Q = ex_ X d 218 842 [.ref a, v1, v2, v3] [.ref a, w0, w1] h Q := ex_nx (show mx_at 218 841 = some (.aload_n 0, 1) by decide +kernel) rfl
set_option maxRecDepth 20000 in
theorem i218_841f0 : ex_ X d 218 841 [.float 1, v1, v2, v3] [w0, w1] h Q = ex_ X d 218 842 [.float 1, v1, v2, v3] [.float 1, w0, w1] h Q := ex_nx (show mx_at 218 841 = some (.aload_n 0, 1) by decide +kernel) rfl
set_option maxRecDepth 20000 in
theorem i218_842 : ex_ X d 218 842 [v0, v1, v2, .int x] [w0, w1, w2] h Q = ex_ X d 218 843 [v0, v1, v2, .int x] [.int x, w0, w1, w2] h Q := ex_nx (show mx_at 218 842 = some (.iload_n 3, 1) by decide +kernel) rfl
set_option maxRecDepth 20000 in
theorem i218_843 : ex_ X d 218 843 [v0, v1, v2, v3] [w0, w1, w2, w3] h Q = ex_ X d 218 844 [v0, v1, v2, v3] [.int 1, w0, w1, w2, w3] h Q := R_iconst (show mx_at 218 843 = some (.iconst 1, 1) by decide +kernel) (by decide)
set_option maxRecDepth 20000 in
theorem i218_844 : ex_ X d 218 844 [v0, v1, v2, v3] [.int y, .int x, w0, w1, w2] h Q = ex_ X d 218 845 [v0, v1, v2, v3] [.int (x + y), w0, w1, w2] h Q := ex_nx (show mx_at 218 844 = some (.iadd, 1) by decide +kernel) rfl
set_option maxRecDepth 20000 in
theorem i218_845 : ex_ X d 218 845 [v0, v1, v2, v3] [.int i, .ref a, w0, w1] h Q = (ik_ h a i = true ∧ ex_ X d 218 846 [v0, v1, v2, v3] [.int (ia_ h a i), w0, w1] h Q) := R_iald (show mx_at 218 845 = some (.iaload, 1) by decide +kernel)
set_option maxRecDepth 20000 in
theorem i218_845f : ex_ X d 218 845 [v0, v1, v2, v3] [.int i, .float 1, w0, w1] h Q = (mx_in i X.1 = true ∧ ex_ X d 218 846 [v0, v1, v2, v3] [.int (X.2 i.toNatClampNeg), w0, w1] h Q) := R_ialdx (show mx_at 218 845 = some (.iaload, 1) by decide +kernel) rfl
set_option maxRecDepth 20000 in
theorem i218_846 : ex_ X d 218 846 [.ref a, v1, v2, v3] [w0, w1, w2] h Q = ex_ X d 218 847 [.ref a, v1, v2, v3] [.ref a, w0, w1, w2] h Q := ex_nx (show mx_at 218 846 = some (.aload_n 0, 1) by decide +kernel) rfl
set_option maxRecDepth 20000 in
theorem i218_846f0 : ex_ X d 218 846 [.float 1, v1, v2, v3] [w0, w1, w2] h Q = ex_ X d 218 847 [.float 1, v1, v2, v3] [.float 1, w0, w1, w2] h Q := ex_nx (show mx_at 218 846 = some (.aload_n 0, 1) by decide +kernel) rfl
set_option maxRecDepth 20000 in
theorem i218_847 : ex_ X d 218 847 [v0, v1, v2, .int x] [w0, w1, w2, w3] h Q = ex_ X d 218 848 [v0, v1, v2, .int x] [.int x, w0, w1, w2, w3] h Q := ex_nx (show mx_at 218 847 = some (.iload_n 3, 1) by decide +kernel) rfl
set_option maxRecDepth 20000 in
theorem i218_848 : ex_ X d 218 848 [v0, v1, v2, v3] [w0, w1, w2, w3, w4] h Q = ex_ X d 218 849 [v0, v1, v2, v3] [.int 2, w0, w1, w2, w3, w4] h Q := R_iconst (show mx_at 218 848 = some (.iconst 2, 1) by decide +kernel) (by decide)
set_option maxRecDepth 20000 in
theorem i218_849 : ex_ X d 218 849 [v0, v1, v2, v3] [.int y, .int x, w0, w1, w2, w3] h Q = ex_ X d 218 850 [v0, v1, v2, v3] [.int (x + y), w0, w1, w2, w3] h Q := ex_nx (show mx_at 218 849 = some (.iadd, 1) by decide +kernel) rfl
set_option maxRecDepth 20000 in
theorem i218_850 : ex_ X d 218 850 [v0, v1, v2, v3] [.int i, .ref a, w0, w1, w2] h Q = (ik_ h a i = true ∧ ex_ X d 218 851 [v0, v1, v2, v3] [.int (ia_ h a i), w0, w1, w2] h Q) := R_iald (show mx_at 218 850 = some (.iaload, 1) by decide +kernel)
set_option maxRecDepth 20000 in
theorem i218_850f : ex_ X d 218 850 [v0, v1, v2, v3] [.int i, .float 1, w0, w1, w2] h Q = (mx_in i X.1 = true ∧ ex_ X d 218 851 [v0, v1, v2, v3] [.int (X.2 i.toNatClampNeg), w0, w1, w2] h Q) := R_ialdx (show mx_at 218 850 = some (.iaload, 1) by decide +kernel) rfl
set_option maxRecDepth 20000 in
theorem i218_851 (hc : co_ h a = some 12) : ex_ X (d + 1) 218 851 [v0, v1, v2, v3] [.int x1, .int x0, .ref a, w0] h Q = ev_ X d 181 [.ref a, .int x0, .int x1] h (fun r h' => ex_ X (d + 1) 218 854 [v0, v1, v2, v3] (r.toList ++ [w0]) h' Q) := R_vir (show mx_at 218 851 = some (.invokevirtual 95, 3) by decide +kernel) (mx_clk ow218 cc21_95) (Nat.le_of_ble_eq_true rfl) rfl rfl hc rfl (Nat.le_of_ble_eq_true rfl) (Nat.le_of_ble_eq_true rfl) (by rw [ml181]; exact Nat.le_of_ble_eq_true rfl)
set_option maxRecDepth 20000 in
theorem i218_854 : ex_ X d 218 854 [v0, v1, v2, v3] [.int y, .int x] h Q = if x = y then ex_ X d 218 1380 [v0, v1, v2, v3] [] h Q else ex_ X d 218 857 [v0, v1, v2, v3] [] h Q := (R_br (show mx_at 218 854 = some (.if_icmp .eq 526, 3) by decide +kernel) rfl rfl).trans mx_ite
set_option maxRecDepth 20000 in
theorem i218_857 : ex_ X d 218 857 [v0, v1, v2, v3] [] h Q = ex_ X d 218 858 [v0, v1, v2, v3] [.int 0] h Q := R_iconst (show mx_at 218 857 = some (.iconst 0, 1) by decide +kernel) (by decide)
set_option maxRecDepth 20000 in
theorem i218_858 (hx : x = 0 ∨ x = 1) : ex_ X d 218 858 [v0, v1, v2, v3] [.int x] h Q = Q (some (.int x)) h := ex_ret (show mx_at 218 858 = some (.ireturn, 1) by decide +kernel) (mx_retZ hx rt218)
set_option maxRecDepth 20000 in
theorem i218_859 : ex_ X d 218 859 [v0, .ref a, v2, v3] [] h Q = ex_ X d 218 860 [v0, .ref a, v2, v3] [.ref a] h Q := ex_nx (show mx_at 218 859 = some (.aload_n 1, 1) by decide +kernel) rfl
set_option maxRecDepth 20000 in
theorem i218_859f0 : ex_ X d 218 859 [v0, .float 1, v2, v3] [] h Q = ex_ X d 218 860 [v0, .float 1, v2, v3] [.float 1] h Q := ex_nx (show mx_at 218 859 = some (.aload_n 1, 1) by decide +kernel) rfl
set_option maxRecDepth 20000 in
theorem i218_860 : ex_ X d 218 860 [.ref a, v1, v2, v3] [w0] h Q = ex_ X d 218 861 [.ref a, v1, v2, v3] [.ref a, w0] h Q := ex_nx (show mx_at 218 860 = some (.aload_n 0, 1) by decide +kernel) rfl
set_option maxRecDepth 20000 in
theorem i218_860f0 : ex_ X d 218 860 [.float 1, v1, v2, v3] [w0] h Q = ex_ X d 218 861 [.float 1, v1, v2, v3] [.float 1, w0] h Q := ex_nx (show mx_at 218 860 = some (.aload_n 0, 1) by decide +kernel) rfl
set_option maxRecDepth 20000 in
theorem i218_861 : ex_ X d 218 861 [v0, v1, v2, .int x] [w0, w1] h Q = ex_ X d 218 862 [v0, v1, v2, .int x] [.int x, w0, w1] h Q := ex_nx (show mx_at 218 861 = some (.iload_n 3, 1) by decide +kernel) rfl
set_option maxRecDepth 20000 in
theorem i218_862 : ex_ X d 218 862 [v0, v1, v2, v3] [w0, w1, w2] h Q = ex_ X d 218 863 [v0, v1, v2, v3] [.int 1, w0, w1, w2] h Q := R_iconst (show mx_at 218 862 = some (.iconst 1, 1) by decide +kernel) (by decide)
set_option maxRecDepth 20000 in
theorem i218_863 : ex_ X d 218 863 [v0, v1, v2, v3] [.int y, .int x, w0, w1] h Q = ex_ X d 218 864 [v0, v1, v2, v3] [.int (x + y), w0, w1] h Q := ex_nx (show mx_at 218 863 = some (.iadd, 1) by decide +kernel) rfl
set_option maxRecDepth 20000 in
theorem i218_864 : ex_ X d 218 864 [v0, v1, v2, v3] [.int i, .ref a, w0] h Q = (ik_ h a i = true ∧ ex_ X d 218 865 [v0, v1, v2, v3] [.int (ia_ h a i), w0] h Q) := R_iald (show mx_at 218 864 = some (.iaload, 1) by decide +kernel)
set_option maxRecDepth 20000 in
theorem i218_864f : ex_ X d 218 864 [v0, v1, v2, v3] [.int i, .float 1, w0] h Q = (mx_in i X.1 = true ∧ ex_ X d 218 865 [v0, v1, v2, v3] [.int (X.2 i.toNatClampNeg), w0] h Q) := R_ialdx (show mx_at 218 864 = some (.iaload, 1) by decide +kernel) rfl
set_option maxRecDepth 20000 in
theorem i218_865 : ex_ X d 218 865 [.ref a, v1, v2, v3] [w0, w1] h Q = ex_ X d 218 866 [.ref a, v1, v2, v3] [.ref a, w0, w1] h Q := ex_nx (show mx_at 218 865 = some (.aload_n 0, 1) by decide +kernel) rfl
set_option maxRecDepth 20000 in
theorem i218_865f0 : ex_ X d 218 865 [.float 1, v1, v2, v3] [w0, w1] h Q = ex_ X d 218 866 [.float 1, v1, v2, v3] [.float 1, w0, w1] h Q := ex_nx (show mx_at 218 865 = some (.aload_n 0, 1) by decide +kernel) rfl
set_option maxRecDepth 20000 in
theorem i218_866 : ex_ X d 218 866 [v0, v1, v2, .int x] [w0, w1, w2] h Q = ex_ X d 218 867 [v0, v1, v2, .int x] [.int x, w0, w1, w2] h Q := ex_nx (show mx_at 218 866 = some (.iload_n 3, 1) by decide +kernel) rfl
set_option maxRecDepth 20000 in
theorem i218_867 : ex_ X d 218 867 [v0, v1, v2, v3] [w0, w1, w2, w3] h Q = ex_ X d 218 868 [v0, v1, v2, v3] [.int 2, w0, w1, w2, w3] h Q := R_iconst (show mx_at 218 867 = some (.iconst 2, 1) by decide +kernel) (by decide)
set_option maxRecDepth 20000 in
theorem i218_868 : ex_ X d 218 868 [v0, v1, v2, v3] [.int y, .int x, w0, w1, w2] h Q = ex_ X d 218 869 [v0, v1, v2, v3] [.int (x + y), w0, w1, w2] h Q := ex_nx (show mx_at 218 868 = some (.iadd, 1) by decide +kernel) rfl
set_option maxRecDepth 20000 in
theorem i218_869 : ex_ X d 218 869 [v0, v1, v2, v3] [.int i, .ref a, w0, w1] h Q = (ik_ h a i = true ∧ ex_ X d 218 870 [v0, v1, v2, v3] [.int (ia_ h a i), w0, w1] h Q) := R_iald (show mx_at 218 869 = some (.iaload, 1) by decide +kernel)
set_option maxRecDepth 20000 in
theorem i218_869f : ex_ X d 218 869 [v0, v1, v2, v3] [.int i, .float 1, w0, w1] h Q = (mx_in i X.1 = true ∧ ex_ X d 218 870 [v0, v1, v2, v3] [.int (X.2 i.toNatClampNeg), w0, w1] h Q) := R_ialdx (show mx_at 218 869 = some (.iaload, 1) by decide +kernel) rfl
set_option maxRecDepth 20000 in
theorem i218_870 (hc : co_ h a = some 11) : ex_ X (d + 1) 218 870 [v0, v1, v2, v3] [.int x1, .int x0, .ref a] h Q = ev_ X d 89 [.ref a, .int x0, .int x1] h (fun r h' => ex_ X (d + 1) 218 873 [v0, v1, v2, v3] (r.toList ++ []) h' Q) := R_vir (show mx_at 218 870 = some (.invokevirtual 96, 3) by decide +kernel) (mx_clk ow218 cc21_96) (Nat.le_of_ble_eq_true rfl) rfl rfl hc rfl (Nat.le_of_ble_eq_true rfl) (Nat.le_of_ble_eq_true rfl) (by rw [ml89]; exact Nat.le_of_ble_eq_true rfl)
set_option maxRecDepth 20000 in
theorem i218_873 : ex_ X d 218 873 [v0, v1, .ref a, v3] [w0] h Q = ex_ X d 218 874 [v0, v1, .ref a, v3] [.ref a, w0] h Q := ex_nx (show mx_at 218 873 = some (.aload_n 2, 1) by decide +kernel) rfl
set_option maxRecDepth 20000 in
theorem i218_873f0 : ex_ X d 218 873 [v0, v1, .float 1, v3] [w0] h Q = ex_ X d 218 874 [v0, v1, .float 1, v3] [.float 1, w0] h Q := ex_nx (show mx_at 218 873 = some (.aload_n 2, 1) by decide +kernel) rfl
set_option maxRecDepth 20000 in
theorem i218_874 : ex_ X d 218 874 [.ref a, v1, v2, v3] [w0, w1] h Q = ex_ X d 218 875 [.ref a, v1, v2, v3] [.ref a, w0, w1] h Q := ex_nx (show mx_at 218 874 = some (.aload_n 0, 1) by decide +kernel) rfl
set_option maxRecDepth 20000 in
theorem i218_874f0 : ex_ X d 218 874 [.float 1, v1, v2, v3] [w0, w1] h Q = ex_ X d 218 875 [.float 1, v1, v2, v3] [.float 1, w0, w1] h Q := ex_nx (show mx_at 218 874 = some (.aload_n 0, 1) by decide +kernel) rfl
set_option maxRecDepth 20000 in
theorem i218_875 : ex_ X d 218 875 [v0, v1, v2, .int x] [w0, w1, w2] h Q = ex_ X d 218 876 [v0, v1, v2, .int x] [.int x, w0, w1, w2] h Q := ex_nx (show mx_at 218 875 = some (.iload_n 3, 1) by decide +kernel) rfl
set_option maxRecDepth 20000 in
theorem i218_876 : ex_ X d 218 876 [v0, v1, v2, v3] [w0, w1, w2, w3] h Q = ex_ X d 218 877 [v0, v1, v2, v3] [.int 1, w0, w1, w2, w3] h Q := R_iconst (show mx_at 218 876 = some (.iconst 1, 1) by decide +kernel) (by decide)
set_option maxRecDepth 20000 in
theorem i218_877 : ex_ X d 218 877 [v0, v1, v2, v3] [.int y, .int x, w0, w1, w2] h Q = ex_ X d 218 878 [v0, v1, v2, v3] [.int (x + y), w0, w1, w2] h Q := ex_nx (show mx_at 218 877 = some (.iadd, 1) by decide +kernel) rfl
set_option maxRecDepth 20000 in
theorem i218_878 : ex_ X d 218 878 [v0, v1, v2, v3] [.int i, .ref a, w0, w1] h Q = (ik_ h a i = true ∧ ex_ X d 218 879 [v0, v1, v2, v3] [.int (ia_ h a i), w0, w1] h Q) := R_iald (show mx_at 218 878 = some (.iaload, 1) by decide +kernel)
set_option maxRecDepth 20000 in
theorem i218_878f : ex_ X d 218 878 [v0, v1, v2, v3] [.int i, .float 1, w0, w1] h Q = (mx_in i X.1 = true ∧ ex_ X d 218 879 [v0, v1, v2, v3] [.int (X.2 i.toNatClampNeg), w0, w1] h Q) := R_ialdx (show mx_at 218 878 = some (.iaload, 1) by decide +kernel) rfl
set_option maxRecDepth 20000 in
theorem i218_879 : ex_ X d 218 879 [.ref a, v1, v2, v3] [w0, w1, w2] h Q = ex_ X d 218 880 [.ref a, v1, v2, v3] [.ref a, w0, w1, w2] h Q := ex_nx (show mx_at 218 879 = some (.aload_n 0, 1) by decide +kernel) rfl
set_option maxRecDepth 20000 in
theorem i218_879f0 : ex_ X d 218 879 [.float 1, v1, v2, v3] [w0, w1, w2] h Q = ex_ X d 218 880 [.float 1, v1, v2, v3] [.float 1, w0, w1, w2] h Q := ex_nx (show mx_at 218 879 = some (.aload_n 0, 1) by decide +kernel) rfl
set_option maxRecDepth 20000 in
theorem i218_880 : ex_ X d 218 880 [v0, v1, v2, .int x] [w0, w1, w2, w3] h Q = ex_ X d 218 881 [v0, v1, v2, .int x] [.int x, w0, w1, w2, w3] h Q := ex_nx (show mx_at 218 880 = some (.iload_n 3, 1) by decide +kernel) rfl
set_option maxRecDepth 20000 in
theorem i218_881 : ex_ X d 218 881 [v0, v1, v2, v3] [w0, w1, w2, w3, w4] h Q = ex_ X d 218 882 [v0, v1, v2, v3] [.int 2, w0, w1, w2, w3, w4] h Q := R_iconst (show mx_at 218 881 = some (.iconst 2, 1) by decide +kernel) (by decide)
set_option maxRecDepth 20000 in
theorem i218_882 : ex_ X d 218 882 [v0, v1, v2, v3] [.int y, .int x, w0, w1, w2, w3] h Q = ex_ X d 218 883 [v0, v1, v2, v3] [.int (x + y), w0, w1, w2, w3] h Q := ex_nx (show mx_at 218 882 = some (.iadd, 1) by decide +kernel) rfl
set_option maxRecDepth 20000 in
theorem i218_883 : ex_ X d 218 883 [v0, v1, v2, v3] [.int i, .ref a, w0, w1, w2] h Q = (ik_ h a i = true ∧ ex_ X d 218 884 [v0, v1, v2, v3] [.int (ia_ h a i), w0, w1, w2] h Q) := R_iald (show mx_at 218 883 = some (.iaload, 1) by decide +kernel)
set_option maxRecDepth 20000 in
theorem i218_883f : ex_ X d 218 883 [v0, v1, v2, v3] [.int i, .float 1, w0, w1, w2] h Q = (mx_in i X.1 = true ∧ ex_ X d 218 884 [v0, v1, v2, v3] [.int (X.2 i.toNatClampNeg), w0, w1, w2] h Q) := R_ialdx (show mx_at 218 883 = some (.iaload, 1) by decide +kernel) rfl
set_option maxRecDepth 20000 in
theorem i218_884 (hc : co_ h a = some 12) : ex_ X (d + 1) 218 884 [v0, v1, v2, v3] [.int x1, .int x0, .ref a, w0] h Q = ev_ X d 182 [.ref a, .int x0, .int x1] h (fun r h' => ex_ X (d + 1) 218 887 [v0, v1, v2, v3] (r.toList ++ [w0]) h' Q) := R_vir (show mx_at 218 884 = some (.invokevirtual 99, 3) by decide +kernel) (mx_clk ow218 cc21_99) (Nat.le_of_ble_eq_true rfl) rfl rfl hc rfl (Nat.le_of_ble_eq_true rfl) (Nat.le_of_ble_eq_true rfl) (by rw [ml182]; exact Nat.le_of_ble_eq_true rfl)
set_option maxRecDepth 20000 in
theorem i218_887 : ex_ X d 218 887 [v0, v1, v2, v3] [.int y, .int x] h Q = if x = y then ex_ X d 218 1380 [v0, v1, v2, v3] [] h Q else ex_ X d 218 890 [v0, v1, v2, v3] [] h Q := (R_br (show mx_at 218 887 = some (.if_icmp .eq 493, 3) by decide +kernel) rfl rfl).trans mx_ite
set_option maxRecDepth 20000 in
theorem i218_890 : ex_ X d 218 890 [v0, v1, v2, v3] [] h Q = ex_ X d 218 891 [v0, v1, v2, v3] [.int 0] h Q := R_iconst (show mx_at 218 890 = some (.iconst 0, 1) by decide +kernel) (by decide)
set_option maxRecDepth 20000 in
theorem i218_891 (hx : x = 0 ∨ x = 1) : ex_ X d 218 891 [v0, v1, v2, v3] [.int x] h Q = Q (some (.int x)) h := ex_ret (show mx_at 218 891 = some (.ireturn, 1) by decide +kernel) (mx_retZ hx rt218)
set_option maxRecDepth 20000 in
theorem i218_892 : ex_ X d 218 892 [v0, .ref a, v2, v3] [] h Q = ex_ X d 218 893 [v0, .ref a, v2, v3] [.ref a] h Q := ex_nx (show mx_at 218 892 = some (.aload_n 1, 1) by decide +kernel) rfl
set_option maxRecDepth 20000 in
theorem i218_892f0 : ex_ X d 218 892 [v0, .float 1, v2, v3] [] h Q = ex_ X d 218 893 [v0, .float 1, v2, v3] [.float 1] h Q := ex_nx (show mx_at 218 892 = some (.aload_n 1, 1) by decide +kernel) rfl
set_option maxRecDepth 20000 in
theorem i218_893 : ex_ X d 218 893 [.ref a, v1, v2, v3] [w0] h Q = ex_ X d 218 894 [.ref a, v1, v2, v3] [.ref a, w0] h Q := ex_nx (show mx_at 218 893 = some (.aload_n 0, 1) by decide +kernel) rfl
set_option maxRecDepth 20000 in
theorem i218_893f0 : ex_ X d 218 893 [.float 1, v1, v2, v3] [w0] h Q = ex_ X d 218 894 [.float 1, v1, v2, v3] [.float 1, w0] h Q := ex_nx (show mx_at 218 893 = some (.aload_n 0, 1) by decide +kernel) rfl
set_option maxRecDepth 20000 in
theorem i218_894 : ex_ X d 218 894 [v0, v1, v2, .int x] [w0, w1] h Q = ex_ X d 218 895 [v0, v1, v2, .int x] [.int x, w0, w1] h Q := ex_nx (show mx_at 218 894 = some (.iload_n 3, 1) by decide +kernel) rfl
set_option maxRecDepth 20000 in
theorem i218_895 : ex_ X d 218 895 [v0, v1, v2, v3] [w0, w1, w2] h Q = ex_ X d 218 896 [v0, v1, v2, v3] [.int 1, w0, w1, w2] h Q := R_iconst (show mx_at 218 895 = some (.iconst 1, 1) by decide +kernel) (by decide)
set_option maxRecDepth 20000 in
theorem i218_896 : ex_ X d 218 896 [v0, v1, v2, v3] [.int y, .int x, w0, w1] h Q = ex_ X d 218 897 [v0, v1, v2, v3] [.int (x + y), w0, w1] h Q := ex_nx (show mx_at 218 896 = some (.iadd, 1) by decide +kernel) rfl
set_option maxRecDepth 20000 in
theorem i218_897 : ex_ X d 218 897 [v0, v1, v2, v3] [.int i, .ref a, w0] h Q = (ik_ h a i = true ∧ ex_ X d 218 898 [v0, v1, v2, v3] [.int (ia_ h a i), w0] h Q) := R_iald (show mx_at 218 897 = some (.iaload, 1) by decide +kernel)
set_option maxRecDepth 20000 in
theorem i218_897f : ex_ X d 218 897 [v0, v1, v2, v3] [.int i, .float 1, w0] h Q = (mx_in i X.1 = true ∧ ex_ X d 218 898 [v0, v1, v2, v3] [.int (X.2 i.toNatClampNeg), w0] h Q) := R_ialdx (show mx_at 218 897 = some (.iaload, 1) by decide +kernel) rfl
set_option maxRecDepth 20000 in
theorem i218_898 : ex_ X d 218 898 [.ref a, v1, v2, v3] [w0, w1] h Q = ex_ X d 218 899 [.ref a, v1, v2, v3] [.ref a, w0, w1] h Q := ex_nx (show mx_at 218 898 = some (.aload_n 0, 1) by decide +kernel) rfl
set_option maxRecDepth 20000 in
theorem i218_898f0 : ex_ X d 218 898 [.float 1, v1, v2, v3] [w0, w1] h Q = ex_ X d 218 899 [.float 1, v1, v2, v3] [.float 1, w0, w1] h Q := ex_nx (show mx_at 218 898 = some (.aload_n 0, 1) by decide +kernel) rfl
set_option maxRecDepth 20000 in
theorem i218_899 : ex_ X d 218 899 [v0, v1, v2, .int x] [w0, w1, w2] h Q = ex_ X d 218 900 [v0, v1, v2, .int x] [.int x, w0, w1, w2] h Q := ex_nx (show mx_at 218 899 = some (.iload_n 3, 1) by decide +kernel) rfl
set_option maxRecDepth 20000 in
theorem i218_900 : ex_ X d 218 900 [v0, v1, v2, v3] [w0, w1, w2, w3] h Q = ex_ X d 218 901 [v0, v1, v2, v3] [.int 2, w0, w1, w2, w3] h Q := R_iconst (show mx_at 218 900 = some (.iconst 2, 1) by decide +kernel) (by decide)
set_option maxRecDepth 20000 in
theorem i218_901 : ex_ X d 218 901 [v0, v1, v2, v3] [.int y, .int x, w0, w1, w2] h Q = ex_ X d 218 902 [v0, v1, v2, v3] [.int (x + y), w0, w1, w2] h Q := ex_nx (show mx_at 218 901 = some (.iadd, 1) by decide +kernel) rfl
set_option maxRecDepth 20000 in
theorem i218_902 : ex_ X d 218 902 [v0, v1, v2, v3] [.int i, .ref a, w0, w1] h Q = (ik_ h a i = true ∧ ex_ X d 218 903 [v0, v1, v2, v3] [.int (ia_ h a i), w0, w1] h Q) := R_iald (show mx_at 218 902 = some (.iaload, 1) by decide +kernel)
set_option maxRecDepth 20000 in
theorem i218_902f : ex_ X d 218 902 [v0, v1, v2, v3] [.int i, .float 1, w0, w1] h Q = (mx_in i X.1 = true ∧ ex_ X d 218 903 [v0, v1, v2, v3] [.int (X.2 i.toNatClampNeg), w0, w1] h Q) := R_ialdx (show mx_at 218 902 = some (.iaload, 1) by decide +kernel) rfl
set_option maxRecDepth 20000 in
theorem i218_903 (hc : co_ h a = some 11) : ex_ X (d + 1) 218 903 [v0, v1, v2, v3] [.int x1, .int x0, .ref a] h Q = ev_ X d 90 [.ref a, .int x0, .int x1] h (fun r h' => ex_ X (d + 1) 218 906 [v0, v1, v2, v3] (r.toList ++ []) h' Q) := R_vir (show mx_at 218 903 = some (.invokevirtual 100, 3) by decide +kernel) (mx_clk ow218 cc21_100) (Nat.le_of_ble_eq_true rfl) rfl rfl hc rfl (Nat.le_of_ble_eq_true rfl) (Nat.le_of_ble_eq_true rfl) (by rw [ml90]; exact Nat.le_of_ble_eq_true rfl)
set_option maxRecDepth 20000 in
theorem i218_906 : ex_ X d 218 906 [v0, v1, .ref a, v3] [w0] h Q = ex_ X d 218 907 [v0, v1, .ref a, v3] [.ref a, w0] h Q := ex_nx (show mx_at 218 906 = some (.aload_n 2, 1) by decide +kernel) rfl
set_option maxRecDepth 20000 in
theorem i218_906f0 : ex_ X d 218 906 [v0, v1, .float 1, v3] [w0] h Q = ex_ X d 218 907 [v0, v1, .float 1, v3] [.float 1, w0] h Q := ex_nx (show mx_at 218 906 = some (.aload_n 2, 1) by decide +kernel) rfl
set_option maxRecDepth 20000 in
theorem i218_907 : ex_ X d 218 907 [.ref a, v1, v2, v3] [w0, w1] h Q = ex_ X d 218 908 [.ref a, v1, v2, v3] [.ref a, w0, w1] h Q := ex_nx (show mx_at 218 907 = some (.aload_n 0, 1) by decide +kernel) rfl
set_option maxRecDepth 20000 in
theorem i218_907f0 : ex_ X d 218 907 [.float 1, v1, v2, v3] [w0, w1] h Q = ex_ X d 218 908 [.float 1, v1, v2, v3] [.float 1, w0, w1] h Q := ex_nx (show mx_at 218 907 = some (.aload_n 0, 1) by decide +kernel) rfl
set_option maxRecDepth 20000 in
theorem i218_908 : ex_ X d 218 908 [v0, v1, v2, .int x] [w0, w1, w2] h Q = ex_ X d 218 909 [v0, v1, v2, .int x] [.int x, w0, w1, w2] h Q := ex_nx (show mx_at 218 908 = some (.iload_n 3, 1) by decide +kernel) rfl
set_option maxRecDepth 20000 in
theorem i218_909 : ex_ X d 218 909 [v0, v1, v2, v3] [w0, w1, w2, w3] h Q = ex_ X d 218 910 [v0, v1, v2, v3] [.int 1, w0, w1, w2, w3] h Q := R_iconst (show mx_at 218 909 = some (.iconst 1, 1) by decide +kernel) (by decide)
set_option maxRecDepth 20000 in
theorem i218_910 : ex_ X d 218 910 [v0, v1, v2, v3] [.int y, .int x, w0, w1, w2] h Q = ex_ X d 218 911 [v0, v1, v2, v3] [.int (x + y), w0, w1, w2] h Q := ex_nx (show mx_at 218 910 = some (.iadd, 1) by decide +kernel) rfl
set_option maxRecDepth 20000 in
theorem i218_911 : ex_ X d 218 911 [v0, v1, v2, v3] [.int i, .ref a, w0, w1] h Q = (ik_ h a i = true ∧ ex_ X d 218 912 [v0, v1, v2, v3] [.int (ia_ h a i), w0, w1] h Q) := R_iald (show mx_at 218 911 = some (.iaload, 1) by decide +kernel)
set_option maxRecDepth 20000 in
theorem i218_911f : ex_ X d 218 911 [v0, v1, v2, v3] [.int i, .float 1, w0, w1] h Q = (mx_in i X.1 = true ∧ ex_ X d 218 912 [v0, v1, v2, v3] [.int (X.2 i.toNatClampNeg), w0, w1] h Q) := R_ialdx (show mx_at 218 911 = some (.iaload, 1) by decide +kernel) rfl
set_option maxRecDepth 20000 in
theorem i218_912 : ex_ X d 218 912 [.ref a, v1, v2, v3] [w0, w1, w2] h Q = ex_ X d 218 913 [.ref a, v1, v2, v3] [.ref a, w0, w1, w2] h Q := ex_nx (show mx_at 218 912 = some (.aload_n 0, 1) by decide +kernel) rfl
set_option maxRecDepth 20000 in
theorem i218_912f0 : ex_ X d 218 912 [.float 1, v1, v2, v3] [w0, w1, w2] h Q = ex_ X d 218 913 [.float 1, v1, v2, v3] [.float 1, w0, w1, w2] h Q := ex_nx (show mx_at 218 912 = some (.aload_n 0, 1) by decide +kernel) rfl
set_option maxRecDepth 20000 in
theorem i218_913 : ex_ X d 218 913 [v0, v1, v2, .int x] [w0, w1, w2, w3] h Q = ex_ X d 218 914 [v0, v1, v2, .int x] [.int x, w0, w1, w2, w3] h Q := ex_nx (show mx_at 218 913 = some (.iload_n 3, 1) by decide +kernel) rfl
set_option maxRecDepth 20000 in
theorem i218_914 : ex_ X d 218 914 [v0, v1, v2, v3] [w0, w1, w2, w3, w4] h Q = ex_ X d 218 915 [v0, v1, v2, v3] [.int 2, w0, w1, w2, w3, w4] h Q := R_iconst (show mx_at 218 914 = some (.iconst 2, 1) by decide +kernel) (by decide)
set_option maxRecDepth 20000 in
theorem i218_915 : ex_ X d 218 915 [v0, v1, v2, v3] [.int y, .int x, w0, w1, w2, w3] h Q = ex_ X d 218 916 [v0, v1, v2, v3] [.int (x + y), w0, w1, w2, w3] h Q := ex_nx (show mx_at 218 915 = some (.iadd, 1) by decide +kernel) rfl
set_option maxRecDepth 20000 in
theorem i218_916 : ex_ X d 218 916 [v0, v1, v2, v3] [.int i, .ref a, w0, w1, w2] h Q = (ik_ h a i = true ∧ ex_ X d 218 917 [v0, v1, v2, v3] [.int (ia_ h a i), w0, w1, w2] h Q) := R_iald (show mx_at 218 916 = some (.iaload, 1) by decide +kernel)
set_option maxRecDepth 20000 in
theorem i218_916f : ex_ X d 218 916 [v0, v1, v2, v3] [.int i, .float 1, w0, w1, w2] h Q = (mx_in i X.1 = true ∧ ex_ X d 218 917 [v0, v1, v2, v3] [.int (X.2 i.toNatClampNeg), w0, w1, w2] h Q) := R_ialdx (show mx_at 218 916 = some (.iaload, 1) by decide +kernel) rfl
set_option maxRecDepth 20000 in
theorem i218_917 (hc : co_ h a = some 12) : ex_ X (d + 1) 218 917 [v0, v1, v2, v3] [.int x1, .int x0, .ref a, w0] h Q = ev_ X d 183 [.ref a, .int x0, .int x1] h (fun r h' => ex_ X (d + 1) 218 920 [v0, v1, v2, v3] (r.toList ++ [w0]) h' Q) := R_vir (show mx_at 218 917 = some (.invokevirtual 103, 3) by decide +kernel) (mx_clk ow218 cc21_103) (Nat.le_of_ble_eq_true rfl) rfl rfl hc rfl (Nat.le_of_ble_eq_true rfl) (Nat.le_of_ble_eq_true rfl) (by rw [ml183]; exact Nat.le_of_ble_eq_true rfl)
set_option maxRecDepth 20000 in
theorem i218_920 : ex_ X d 218 920 [v0, v1, v2, v3] [.int y, .int x] h Q = if x = y then ex_ X d 218 1380 [v0, v1, v2, v3] [] h Q else ex_ X d 218 923 [v0, v1, v2, v3] [] h Q := (R_br (show mx_at 218 920 = some (.if_icmp .eq 460, 3) by decide +kernel) rfl rfl).trans mx_ite
set_option maxRecDepth 20000 in
theorem i218_923 : ex_ X d 218 923 [v0, v1, v2, v3] [] h Q = ex_ X d 218 924 [v0, v1, v2, v3] [.int 0] h Q := R_iconst (show mx_at 218 923 = some (.iconst 0, 1) by decide +kernel) (by decide)
set_option maxRecDepth 20000 in
theorem i218_924 (hx : x = 0 ∨ x = 1) : ex_ X d 218 924 [v0, v1, v2, v3] [.int x] h Q = Q (some (.int x)) h := ex_ret (show mx_at 218 924 = some (.ireturn, 1) by decide +kernel) (mx_retZ hx rt218)
set_option maxRecDepth 20000 in
theorem i218_925 : ex_ X d 218 925 [v0, .ref a, v2, v3] [] h Q = ex_ X d 218 926 [v0, .ref a, v2, v3] [.ref a] h Q := ex_nx (show mx_at 218 925 = some (.aload_n 1, 1) by decide +kernel) rfl
set_option maxRecDepth 20000 in
theorem i218_925f0 : ex_ X d 218 925 [v0, .float 1, v2, v3] [] h Q = ex_ X d 218 926 [v0, .float 1, v2, v3] [.float 1] h Q := ex_nx (show mx_at 218 925 = some (.aload_n 1, 1) by decide +kernel) rfl
set_option maxRecDepth 20000 in
theorem i218_926 : ex_ X d 218 926 [.ref a, v1, v2, v3] [w0] h Q = ex_ X d 218 927 [.ref a, v1, v2, v3] [.ref a, w0] h Q := ex_nx (show mx_at 218 926 = some (.aload_n 0, 1) by decide +kernel) rfl
set_option maxRecDepth 20000 in
theorem i218_926f0 : ex_ X d 218 926 [.float 1, v1, v2, v3] [w0] h Q = ex_ X d 218 927 [.float 1, v1, v2, v3] [.float 1, w0] h Q := ex_nx (show mx_at 218 926 = some (.aload_n 0, 1) by decide +kernel) rfl
set_option maxRecDepth 20000 in
theorem i218_927 : ex_ X d 218 927 [v0, v1, v2, .int x] [w0, w1] h Q = ex_ X d 218 928 [v0, v1, v2, .int x] [.int x, w0, w1] h Q := ex_nx (show mx_at 218 927 = some (.iload_n 3, 1) by decide +kernel) rfl
set_option maxRecDepth 20000 in
theorem i218_928 : ex_ X d 218 928 [v0, v1, v2, v3] [w0, w1, w2] h Q = ex_ X d 218 929 [v0, v1, v2, v3] [.int 1, w0, w1, w2] h Q := R_iconst (show mx_at 218 928 = some (.iconst 1, 1) by decide +kernel) (by decide)
set_option maxRecDepth 20000 in
theorem i218_929 : ex_ X d 218 929 [v0, v1, v2, v3] [.int y, .int x, w0, w1] h Q = ex_ X d 218 930 [v0, v1, v2, v3] [.int (x + y), w0, w1] h Q := ex_nx (show mx_at 218 929 = some (.iadd, 1) by decide +kernel) rfl
set_option maxRecDepth 20000 in
theorem i218_930 : ex_ X d 218 930 [v0, v1, v2, v3] [.int i, .ref a, w0] h Q = (ik_ h a i = true ∧ ex_ X d 218 931 [v0, v1, v2, v3] [.int (ia_ h a i), w0] h Q) := R_iald (show mx_at 218 930 = some (.iaload, 1) by decide +kernel)
set_option maxRecDepth 20000 in
theorem i218_930f : ex_ X d 218 930 [v0, v1, v2, v3] [.int i, .float 1, w0] h Q = (mx_in i X.1 = true ∧ ex_ X d 218 931 [v0, v1, v2, v3] [.int (X.2 i.toNatClampNeg), w0] h Q) := R_ialdx (show mx_at 218 930 = some (.iaload, 1) by decide +kernel) rfl
set_option maxRecDepth 20000 in
theorem i218_931 (hc : co_ h a = some 11) : ex_ X (d + 1) 218 931 [v0, v1, v2, v3] [.int x0, .ref a] h Q = ev_ X d 91 [.ref a, .int x0] h (fun r h' => ex_ X (d + 1) 218 934 [v0, v1, v2, v3] (r.toList ++ []) h' Q) := R_vir (show mx_at 218 931 = some (.invokevirtual 104, 3) by decide +kernel) (mx_clk ow218 cc21_104) (Nat.le_of_ble_eq_true rfl) rfl rfl hc rfl (Nat.le_of_ble_eq_true rfl) (Nat.le_of_ble_eq_true rfl) (by rw [ml91]; exact Nat.le_of_ble_eq_true rfl)
set_option maxRecDepth 20000 in
theorem i218_934 : ex_ X d 218 934 [v0, v1, .ref a, v3] [w0] h Q = ex_ X d 218 935 [v0, v1, .ref a, v3] [.ref a, w0] h Q := ex_nx (show mx_at 218 934 = some (.aload_n 2, 1) by decide +kernel) rfl
set_option maxRecDepth 20000 in
theorem i218_934f0 : ex_ X d 218 934 [v0, v1, .float 1, v3] [w0] h Q = ex_ X d 218 935 [v0, v1, .float 1, v3] [.float 1, w0] h Q := ex_nx (show mx_at 218 934 = some (.aload_n 2, 1) by decide +kernel) rfl
set_option maxRecDepth 20000 in
theorem i218_935 : ex_ X d 218 935 [.ref a, v1, v2, v3] [w0, w1] h Q = ex_ X d 218 936 [.ref a, v1, v2, v3] [.ref a, w0, w1] h Q := ex_nx (show mx_at 218 935 = some (.aload_n 0, 1) by decide +kernel) rfl
set_option maxRecDepth 20000 in
theorem i218_935f0 : ex_ X d 218 935 [.float 1, v1, v2, v3] [w0, w1] h Q = ex_ X d 218 936 [.float 1, v1, v2, v3] [.float 1, w0, w1] h Q := ex_nx (show mx_at 218 935 = some (.aload_n 0, 1) by decide +kernel) rfl
set_option maxRecDepth 20000 in
theorem i218_936 : ex_ X d 218 936 [v0, v1, v2, .int x] [w0, w1, w2] h Q = ex_ X d 218 937 [v0, v1, v2, .int x] [.int x, w0, w1, w2] h Q := ex_nx (show mx_at 218 936 = some (.iload_n 3, 1) by decide +kernel) rfl
set_option maxRecDepth 20000 in
theorem i218_937 : ex_ X d 218 937 [v0, v1, v2, v3] [w0, w1, w2, w3] h Q = ex_ X d 218 938 [v0, v1, v2, v3] [.int 1, w0, w1, w2, w3] h Q := R_iconst (show mx_at 218 937 = some (.iconst 1, 1) by decide +kernel) (by decide)
set_option maxRecDepth 20000 in
theorem i218_938 : ex_ X d 218 938 [v0, v1, v2, v3] [.int y, .int x, w0, w1, w2] h Q = ex_ X d 218 939 [v0, v1, v2, v3] [.int (x + y), w0, w1, w2] h Q := ex_nx (show mx_at 218 938 = some (.iadd, 1) by decide +kernel) rfl
set_option maxRecDepth 20000 in
theorem i218_939 : ex_ X d 218 939 [v0, v1, v2, v3] [.int i, .ref a, w0, w1] h Q = (ik_ h a i = true ∧ ex_ X d 218 940 [v0, v1, v2, v3] [.int (ia_ h a i), w0, w1] h Q) := R_iald (show mx_at 218 939 = some (.iaload, 1) by decide +kernel)
set_option maxRecDepth 20000 in
theorem i218_939f : ex_ X d 218 939 [v0, v1, v2, v3] [.int i, .float 1, w0, w1] h Q = (mx_in i X.1 = true ∧ ex_ X d 218 940 [v0, v1, v2, v3] [.int (X.2 i.toNatClampNeg), w0, w1] h Q) := R_ialdx (show mx_at 218 939 = some (.iaload, 1) by decide +kernel) rfl
set_option maxRecDepth 20000 in
theorem i218_940 (hc : co_ h a = some 12) : ex_ X (d + 1) 218 940 [v0, v1, v2, v3] [.int x0, .ref a, w0] h Q = ev_ X d 184 [.ref a, .int x0] h (fun r h' => ex_ X (d + 1) 218 943 [v0, v1, v2, v3] (r.toList ++ [w0]) h' Q) := R_vir (show mx_at 218 940 = some (.invokevirtual 107, 3) by decide +kernel) (mx_clk ow218 cc21_107) (Nat.le_of_ble_eq_true rfl) rfl rfl hc rfl (Nat.le_of_ble_eq_true rfl) (Nat.le_of_ble_eq_true rfl) (by rw [ml184]; exact Nat.le_of_ble_eq_true rfl)
set_option maxRecDepth 20000 in
theorem i218_943 : ex_ X d 218 943 [v0, v1, v2, v3] [.int y, .int x] h Q = if x = y then ex_ X d 218 1380 [v0, v1, v2, v3] [] h Q else ex_ X d 218 946 [v0, v1, v2, v3] [] h Q := (R_br (show mx_at 218 943 = some (.if_icmp .eq 437, 3) by decide +kernel) rfl rfl).trans mx_ite
set_option maxRecDepth 20000 in
theorem i218_946 : ex_ X d 218 946 [v0, v1, v2, v3] [] h Q = ex_ X d 218 947 [v0, v1, v2, v3] [.int 0] h Q := R_iconst (show mx_at 218 946 = some (.iconst 0, 1) by decide +kernel) (by decide)
set_option maxRecDepth 20000 in
theorem i218_947 (hx : x = 0 ∨ x = 1) : ex_ X d 218 947 [v0, v1, v2, v3] [.int x] h Q = Q (some (.int x)) h := ex_ret (show mx_at 218 947 = some (.ireturn, 1) by decide +kernel) (mx_retZ hx rt218)
set_option maxRecDepth 20000 in
theorem i218_948 : ex_ X d 218 948 [v0, .ref a, v2, v3] [] h Q = ex_ X d 218 949 [v0, .ref a, v2, v3] [.ref a] h Q := ex_nx (show mx_at 218 948 = some (.aload_n 1, 1) by decide +kernel) rfl
set_option maxRecDepth 20000 in
theorem i218_948f0 : ex_ X d 218 948 [v0, .float 1, v2, v3] [] h Q = ex_ X d 218 949 [v0, .float 1, v2, v3] [.float 1] h Q := ex_nx (show mx_at 218 948 = some (.aload_n 1, 1) by decide +kernel) rfl
set_option maxRecDepth 20000 in
theorem i218_949 : ex_ X d 218 949 [.ref a, v1, v2, v3] [w0] h Q = ex_ X d 218 950 [.ref a, v1, v2, v3] [.ref a, w0] h Q := ex_nx (show mx_at 218 949 = some (.aload_n 0, 1) by decide +kernel) rfl
set_option maxRecDepth 20000 in
theorem i218_949f0 : ex_ X d 218 949 [.float 1, v1, v2, v3] [w0] h Q = ex_ X d 218 950 [.float 1, v1, v2, v3] [.float 1, w0] h Q := ex_nx (show mx_at 218 949 = some (.aload_n 0, 1) by decide +kernel) rfl
set_option maxRecDepth 20000 in
theorem i218_950 : ex_ X d 218 950 [v0, v1, v2, .int x] [w0, w1] h Q = ex_ X d 218 951 [v0, v1, v2, .int x] [.int x, w0, w1] h Q := ex_nx (show mx_at 218 950 = some (.iload_n 3, 1) by decide +kernel) rfl
set_option maxRecDepth 20000 in
theorem i218_951 : ex_ X d 218 951 [v0, v1, v2, v3] [w0, w1, w2] h Q = ex_ X d 218 952 [v0, v1, v2, v3] [.int 1, w0, w1, w2] h Q := R_iconst (show mx_at 218 951 = some (.iconst 1, 1) by decide +kernel) (by decide)
set_option maxRecDepth 20000 in
theorem i218_952 : ex_ X d 218 952 [v0, v1, v2, v3] [.int y, .int x, w0, w1] h Q = ex_ X d 218 953 [v0, v1, v2, v3] [.int (x + y), w0, w1] h Q := ex_nx (show mx_at 218 952 = some (.iadd, 1) by decide +kernel) rfl
set_option maxRecDepth 20000 in
theorem i218_953 : ex_ X d 218 953 [v0, v1, v2, v3] [.int i, .ref a, w0] h Q = (ik_ h a i = true ∧ ex_ X d 218 954 [v0, v1, v2, v3] [.int (ia_ h a i), w0] h Q) := R_iald (show mx_at 218 953 = some (.iaload, 1) by decide +kernel)
set_option maxRecDepth 20000 in
theorem i218_953f : ex_ X d 218 953 [v0, v1, v2, v3] [.int i, .float 1, w0] h Q = (mx_in i X.1 = true ∧ ex_ X d 218 954 [v0, v1, v2, v3] [.int (X.2 i.toNatClampNeg), w0] h Q) := R_ialdx (show mx_at 218 953 = some (.iaload, 1) by decide +kernel) rfl
set_option maxRecDepth 20000 in
theorem i218_954 : ex_ X d 218 954 [.ref a, v1, v2, v3] [w0, w1] h Q = ex_ X d 218 955 [.ref a, v1, v2, v3] [.ref a, w0, w1] h Q := ex_nx (show mx_at 218 954 = some (.aload_n 0, 1) by decide +kernel) rfl
set_option maxRecDepth 20000 in
theorem i218_954f0 : ex_ X d 218 954 [.float 1, v1, v2, v3] [w0, w1] h Q = ex_ X d 218 955 [.float 1, v1, v2, v3] [.float 1, w0, w1] h Q := ex_nx (show mx_at 218 954 = some (.aload_n 0, 1) by decide +kernel) rfl
set_option maxRecDepth 20000 in
theorem i218_955 : ex_ X d 218 955 [v0, v1, v2, .int x] [w0, w1, w2] h Q = ex_ X d 218 956 [v0, v1, v2, .int x] [.int x, w0, w1, w2] h Q := ex_nx (show mx_at 218 955 = some (.iload_n 3, 1) by decide +kernel) rfl
set_option maxRecDepth 20000 in
theorem i218_956 : ex_ X d 218 956 [v0, v1, v2, v3] [w0, w1, w2, w3] h Q = ex_ X d 218 957 [v0, v1, v2, v3] [.int 2, w0, w1, w2, w3] h Q := R_iconst (show mx_at 218 956 = some (.iconst 2, 1) by decide +kernel) (by decide)
set_option maxRecDepth 20000 in
theorem i218_957 : ex_ X d 218 957 [v0, v1, v2, v3] [.int y, .int x, w0, w1, w2] h Q = ex_ X d 218 958 [v0, v1, v2, v3] [.int (x + y), w0, w1, w2] h Q := ex_nx (show mx_at 218 957 = some (.iadd, 1) by decide +kernel) rfl
set_option maxRecDepth 20000 in
theorem i218_958 : ex_ X d 218 958 [v0, v1, v2, v3] [.int i, .ref a, w0, w1] h Q = (ik_ h a i = true ∧ ex_ X d 218 959 [v0, v1, v2, v3] [.int (ia_ h a i), w0, w1] h Q) := R_iald (show mx_at 218 958 = some (.iaload, 1) by decide +kernel)
set_option maxRecDepth 20000 in
theorem i218_958f : ex_ X d 218 958 [v0, v1, v2, v3] [.int i, .float 1, w0, w1] h Q = (mx_in i X.1 = true ∧ ex_ X d 218 959 [v0, v1, v2, v3] [.int (X.2 i.toNatClampNeg), w0, w1] h Q) := R_ialdx (show mx_at 218 958 = some (.iaload, 1) by decide +kernel) rfl
set_option maxRecDepth 20000 in
theorem i218_959 : ex_ X d 218 959 [.ref a, v1, v2, v3] [w0, w1, w2] h Q = ex_ X d 218 960 [.ref a, v1, v2, v3] [.ref a, w0, w1, w2] h Q := ex_nx (show mx_at 218 959 = some (.aload_n 0, 1) by decide +kernel) rfl
set_option maxRecDepth 20000 in
theorem i218_959f0 : ex_ X d 218 959 [.float 1, v1, v2, v3] [w0, w1, w2] h Q = ex_ X d 218 960 [.float 1, v1, v2, v3] [.float 1, w0, w1, w2] h Q := ex_nx (show mx_at 218 959 = some (.aload_n 0, 1) by decide +kernel) rfl
set_option maxRecDepth 20000 in
theorem i218_960 : ex_ X d 218 960 [v0, v1, v2, .int x] [w0, w1, w2, w3] h Q = ex_ X d 218 961 [v0, v1, v2, .int x] [.int x, w0, w1, w2, w3] h Q := ex_nx (show mx_at 218 960 = some (.iload_n 3, 1) by decide +kernel) rfl
set_option maxRecDepth 20000 in
theorem i218_961 : ex_ X d 218 961 [v0, v1, v2, v3] [w0, w1, w2, w3, w4] h Q = ex_ X d 218 962 [v0, v1, v2, v3] [.int 3, w0, w1, w2, w3, w4] h Q := R_iconst (show mx_at 218 961 = some (.iconst 3, 1) by decide +kernel) (by decide)
set_option maxRecDepth 20000 in
theorem i218_962 : ex_ X d 218 962 [v0, v1, v2, v3] [.int y, .int x, w0, w1, w2, w3] h Q = ex_ X d 218 963 [v0, v1, v2, v3] [.int (x + y), w0, w1, w2, w3] h Q := ex_nx (show mx_at 218 962 = some (.iadd, 1) by decide +kernel) rfl
set_option maxRecDepth 20000 in
theorem i218_963 : ex_ X d 218 963 [v0, v1, v2, v3] [.int i, .ref a, w0, w1, w2] h Q = (ik_ h a i = true ∧ ex_ X d 218 964 [v0, v1, v2, v3] [.int (ia_ h a i), w0, w1, w2] h Q) := R_iald (show mx_at 218 963 = some (.iaload, 1) by decide +kernel)
set_option maxRecDepth 20000 in
theorem i218_963f : ex_ X d 218 963 [v0, v1, v2, v3] [.int i, .float 1, w0, w1, w2] h Q = (mx_in i X.1 = true ∧ ex_ X d 218 964 [v0, v1, v2, v3] [.int (X.2 i.toNatClampNeg), w0, w1, w2] h Q) := R_ialdx (show mx_at 218 963 = some (.iaload, 1) by decide +kernel) rfl
set_option maxRecDepth 20000 in
theorem i218_964 : ex_ X d 218 964 [.ref a, v1, v2, v3] [w0, w1, w2, w3] h Q = ex_ X d 218 965 [.ref a, v1, v2, v3] [.ref a, w0, w1, w2, w3] h Q := ex_nx (show mx_at 218 964 = some (.aload_n 0, 1) by decide +kernel) rfl
set_option maxRecDepth 20000 in
theorem i218_964f0 : ex_ X d 218 964 [.float 1, v1, v2, v3] [w0, w1, w2, w3] h Q = ex_ X d 218 965 [.float 1, v1, v2, v3] [.float 1, w0, w1, w2, w3] h Q := ex_nx (show mx_at 218 964 = some (.aload_n 0, 1) by decide +kernel) rfl
set_option maxRecDepth 20000 in
theorem i218_965 : ex_ X d 218 965 [v0, v1, v2, .int x] [w0, w1, w2, w3, w4] h Q = ex_ X d 218 966 [v0, v1, v2, .int x] [.int x, w0, w1, w2, w3, w4] h Q := ex_nx (show mx_at 218 965 = some (.iload_n 3, 1) by decide +kernel) rfl
set_option maxRecDepth 20000 in
theorem i218_966 : ex_ X d 218 966 [v0, v1, v2, v3] [w0, w1, w2, w3, w4, w5] h Q = ex_ X d 218 967 [v0, v1, v2, v3] [.int 4, w0, w1, w2, w3, w4, w5] h Q := R_iconst (show mx_at 218 966 = some (.iconst 4, 1) by decide +kernel) (by decide)
set_option maxRecDepth 20000 in
theorem i218_967 : ex_ X d 218 967 [v0, v1, v2, v3] [.int y, .int x, w0, w1, w2, w3, w4] h Q = ex_ X d 218 968 [v0, v1, v2, v3] [.int (x + y), w0, w1, w2, w3, w4] h Q := ex_nx (show mx_at 218 967 = some (.iadd, 1) by decide +kernel) rfl
set_option maxRecDepth 20000 in
theorem i218_968 : ex_ X d 218 968 [v0, v1, v2, v3] [.int i, .ref a, w0, w1, w2, w3] h Q = (ik_ h a i = true ∧ ex_ X d 218 969 [v0, v1, v2, v3] [.int (ia_ h a i), w0, w1, w2, w3] h Q) := R_iald (show mx_at 218 968 = some (.iaload, 1) by decide +kernel)
set_option maxRecDepth 20000 in
theorem i218_968f : ex_ X d 218 968 [v0, v1, v2, v3] [.int i, .float 1, w0, w1, w2, w3] h Q = (mx_in i X.1 = true ∧ ex_ X d 218 969 [v0, v1, v2, v3] [.int (X.2 i.toNatClampNeg), w0, w1, w2, w3] h Q) := R_ialdx (show mx_at 218 968 = some (.iaload, 1) by decide +kernel) rfl
set_option maxRecDepth 20000 in
theorem i218_969 (hc : co_ h a = some 11) : ex_ X (d + 1) 218 969 [v0, v1, v2, v3] [.int x3, .int x2, .int x1, .int x0, .ref a] h Q = ev_ X d 92 [.ref a, .int x0, .int x1, .int x2, .int x3] h (fun r h' => ex_ X (d + 1) 218 972 [v0, v1, v2, v3] (r.toList ++ []) h' Q) := R_vir (show mx_at 218 969 = some (.invokevirtual 108, 3) by decide +kernel) (mx_clk ow218 cc21_108) (Nat.le_of_ble_eq_true rfl) rfl rfl hc rfl (Nat.le_of_ble_eq_true rfl) (Nat.le_of_ble_eq_true rfl) (by rw [ml92]; exact Nat.le_of_ble_eq_true rfl)
set_option maxRecDepth 20000 in
theorem i218_972 : ex_ X d 218 972 [v0, v1, .ref a, v3] [w0] h Q = ex_ X d 218 973 [v0, v1, .ref a, v3] [.ref a, w0] h Q := ex_nx (show mx_at 218 972 = some (.aload_n 2, 1) by decide +kernel) rfl
set_option maxRecDepth 20000 in
theorem i218_972f0 : ex_ X d 218 972 [v0, v1, .float 1, v3] [w0] h Q = ex_ X d 218 973 [v0, v1, .float 1, v3] [.float 1, w0] h Q := ex_nx (show mx_at 218 972 = some (.aload_n 2, 1) by decide +kernel) rfl
set_option maxRecDepth 20000 in
theorem i218_973 : ex_ X d 218 973 [.ref a, v1, v2, v3] [w0, w1] h Q = ex_ X d 218 974 [.ref a, v1, v2, v3] [.ref a, w0, w1] h Q := ex_nx (show mx_at 218 973 = some (.aload_n 0, 1) by decide +kernel) rfl
set_option maxRecDepth 20000 in
theorem i218_973f0 : ex_ X d 218 973 [.float 1, v1, v2, v3] [w0, w1] h Q = ex_ X d 218 974 [.float 1, v1, v2, v3] [.float 1, w0, w1] h Q := ex_nx (show mx_at 218 973 = some (.aload_n 0, 1) by decide +kernel) rfl
set_option maxRecDepth 20000 in
theorem i218_974 : ex_ X d 218 974 [v0, v1, v2, .int x] [w0, w1, w2] h Q = ex_ X d 218 975 [v0, v1, v2, .int x] [.int x, w0, w1, w2] h Q := ex_nx (show mx_at 218 974 = some (.iload_n 3, 1) by decide +kernel) rfl
set_option maxRecDepth 20000 in
theorem i218_975 : ex_ X d 218 975 [v0, v1, v2, v3] [w0, w1, w2, w3] h Q = ex_ X d 218 976 [v0, v1, v2, v3] [.int 1, w0, w1, w2, w3] h Q := R_iconst (show mx_at 218 975 = some (.iconst 1, 1) by decide +kernel) (by decide)
set_option maxRecDepth 20000 in
theorem i218_976 : ex_ X d 218 976 [v0, v1, v2, v3] [.int y, .int x, w0, w1, w2] h Q = ex_ X d 218 977 [v0, v1, v2, v3] [.int (x + y), w0, w1, w2] h Q := ex_nx (show mx_at 218 976 = some (.iadd, 1) by decide +kernel) rfl
set_option maxRecDepth 20000 in
theorem i218_977 : ex_ X d 218 977 [v0, v1, v2, v3] [.int i, .ref a, w0, w1] h Q = (ik_ h a i = true ∧ ex_ X d 218 978 [v0, v1, v2, v3] [.int (ia_ h a i), w0, w1] h Q) := R_iald (show mx_at 218 977 = some (.iaload, 1) by decide +kernel)
set_option maxRecDepth 20000 in
theorem i218_977f : ex_ X d 218 977 [v0, v1, v2, v3] [.int i, .float 1, w0, w1] h Q = (mx_in i X.1 = true ∧ ex_ X d 218 978 [v0, v1, v2, v3] [.int (X.2 i.toNatClampNeg), w0, w1] h Q) := R_ialdx (show mx_at 218 977 = some (.iaload, 1) by decide +kernel) rfl
set_option maxRecDepth 20000 in
theorem i218_978 : ex_ X d 218 978 [.ref a, v1, v2, v3] [w0, w1, w2] h Q = ex_ X d 218 979 [.ref a, v1, v2, v3] [.ref a, w0, w1, w2] h Q := ex_nx (show mx_at 218 978 = some (.aload_n 0, 1) by decide +kernel) rfl
set_option maxRecDepth 20000 in
theorem i218_978f0 : ex_ X d 218 978 [.float 1, v1, v2, v3] [w0, w1, w2] h Q = ex_ X d 218 979 [.float 1, v1, v2, v3] [.float 1, w0, w1, w2] h Q := ex_nx (show mx_at 218 978 = some (.aload_n 0, 1) by decide +kernel) rfl
set_option maxRecDepth 20000 in
theorem i218_979 : ex_ X d 218 979 [v0, v1, v2, .int x] [w0, w1, w2, w3] h Q = ex_ X d 218 980 [v0, v1, v2, .int x] [.int x, w0, w1, w2, w3] h Q := ex_nx (show mx_at 218 979 = some (.iload_n 3, 1) by decide +kernel) rfl
set_option maxRecDepth 20000 in
theorem i218_980 : ex_ X d 218 980 [v0, v1, v2, v3] [w0, w1, w2, w3, w4] h Q = ex_ X d 218 981 [v0, v1, v2, v3] [.int 2, w0, w1, w2, w3, w4] h Q := R_iconst (show mx_at 218 980 = some (.iconst 2, 1) by decide +kernel) (by decide)
set_option maxRecDepth 20000 in
theorem i218_981 : ex_ X d 218 981 [v0, v1, v2, v3] [.int y, .int x, w0, w1, w2, w3] h Q = ex_ X d 218 982 [v0, v1, v2, v3] [.int (x + y), w0, w1, w2, w3] h Q := ex_nx (show mx_at 218 981 = some (.iadd, 1) by decide +kernel) rfl
set_option maxRecDepth 20000 in
theorem i218_982 : ex_ X d 218 982 [v0, v1, v2, v3] [.int i, .ref a, w0, w1, w2] h Q = (ik_ h a i = true ∧ ex_ X d 218 983 [v0, v1, v2, v3] [.int (ia_ h a i), w0, w1, w2] h Q) := R_iald (show mx_at 218 982 = some (.iaload, 1) by decide +kernel)
set_option maxRecDepth 20000 in
theorem i218_982f : ex_ X d 218 982 [v0, v1, v2, v3] [.int i, .float 1, w0, w1, w2] h Q = (mx_in i X.1 = true ∧ ex_ X d 218 983 [v0, v1, v2, v3] [.int (X.2 i.toNatClampNeg), w0, w1, w2] h Q) := R_ialdx (show mx_at 218 982 = some (.iaload, 1) by decide +kernel) rfl
set_option maxRecDepth 20000 in
theorem i218_983 : ex_ X d 218 983 [.ref a, v1, v2, v3] [w0, w1, w2, w3] h Q = ex_ X d 218 984 [.ref a, v1, v2, v3] [.ref a, w0, w1, w2, w3] h Q := ex_nx (show mx_at 218 983 = some (.aload_n 0, 1) by decide +kernel) rfl
set_option maxRecDepth 20000 in
theorem i218_983f0 : ex_ X d 218 983 [.float 1, v1, v2, v3] [w0, w1, w2, w3] h Q = ex_ X d 218 984 [.float 1, v1, v2, v3] [.float 1, w0, w1, w2, w3] h Q := ex_nx (show mx_at 218 983 = some (.aload_n 0, 1) by decide +kernel) rfl
set_option maxRecDepth 20000 in
theorem i218_984 : ex_ X d 218 984 [v0, v1, v2, .int x] [w0, w1, w2, w3, w4] h Q = ex_ X d 218 985 [v0, v1, v2, .int x] [.int x, w0, w1, w2, w3, w4] h Q := ex_nx (show mx_at 218 984 = some (.iload_n 3, 1) by decide +kernel) rfl
set_option maxRecDepth 20000 in
theorem i218_985 : ex_ X d 218 985 [v0, v1, v2, v3] [w0, w1, w2, w3, w4, w5] h Q = ex_ X d 218 986 [v0, v1, v2, v3] [.int 3, w0, w1, w2, w3, w4, w5] h Q := R_iconst (show mx_at 218 985 = some (.iconst 3, 1) by decide +kernel) (by decide)
set_option maxRecDepth 20000 in
theorem i218_986 : ex_ X d 218 986 [v0, v1, v2, v3] [.int y, .int x, w0, w1, w2, w3, w4] h Q = ex_ X d 218 987 [v0, v1, v2, v3] [.int (x + y), w0, w1, w2, w3, w4] h Q := ex_nx (show mx_at 218 986 = some (.iadd, 1) by decide +kernel) rfl
set_option maxRecDepth 20000 in
theorem i218_987 : ex_ X d 218 987 [v0, v1, v2, v3] [.int i, .ref a, w0, w1, w2, w3] h Q = (ik_ h a i = true ∧ ex_ X d 218 988 [v0, v1, v2, v3] [.int (ia_ h a i), w0, w1, w2, w3] h Q) := R_iald (show mx_at 218 987 = some (.iaload, 1) by decide +kernel)
set_option maxRecDepth 20000 in
theorem i218_987f : ex_ X d 218 987 [v0, v1, v2, v3] [.int i, .float 1, w0, w1, w2, w3] h Q = (mx_in i X.1 = true ∧ ex_ X d 218 988 [v0, v1, v2, v3] [.int (X.2 i.toNatClampNeg), w0, w1, w2, w3] h Q) := R_ialdx (show mx_at 218 987 = some (.iaload, 1) by decide +kernel) rfl
set_option maxRecDepth 20000 in
theorem i218_988 : ex_ X d 218 988 [.ref a, v1, v2, v3] [w0, w1, w2, w3, w4] h Q = ex_ X d 218 989 [.ref a, v1, v2, v3] [.ref a, w0, w1, w2, w3, w4] h Q := ex_nx (show mx_at 218 988 = some (.aload_n 0, 1) by decide +kernel) rfl
set_option maxRecDepth 20000 in
theorem i218_988f0 : ex_ X d 218 988 [.float 1, v1, v2, v3] [w0, w1, w2, w3, w4] h Q = ex_ X d 218 989 [.float 1, v1, v2, v3] [.float 1, w0, w1, w2, w3, w4] h Q := ex_nx (show mx_at 218 988 = some (.aload_n 0, 1) by decide +kernel) rfl
set_option maxRecDepth 20000 in
theorem i218_989 : ex_ X d 218 989 [v0, v1, v2, .int x] [w0, w1, w2, w3, w4, w5] h Q = ex_ X d 218 990 [v0, v1, v2, .int x] [.int x, w0, w1, w2, w3, w4, w5] h Q := ex_nx (show mx_at 218 989 = some (.iload_n 3, 1) by decide +kernel) rfl
set_option maxRecDepth 20000 in
theorem i218_990 : ex_ X d 218 990 [v0, v1, v2, v3] [w0, w1, w2, w3, w4, w5, w6] h Q = ex_ X d 218 991 [v0, v1, v2, v3] [.int 4, w0, w1, w2, w3, w4, w5, w6] h Q := R_iconst (show mx_at 218 990 = some (.iconst 4, 1) by decide +kernel) (by decide)
set_option maxRecDepth 20000 in
theorem i218_991 : ex_ X d 218 991 [v0, v1, v2, v3] [.int y, .int x, w0, w1, w2, w3, w4, w5] h Q = ex_ X d 218 992 [v0, v1, v2, v3] [.int (x + y), w0, w1, w2, w3, w4, w5] h Q := ex_nx (show mx_at 218 991 = some (.iadd, 1) by decide +kernel) rfl
set_option maxRecDepth 20000 in
theorem i218_992 : ex_ X d 218 992 [v0, v1, v2, v3] [.int i, .ref a, w0, w1, w2, w3, w4] h Q = (ik_ h a i = true ∧ ex_ X d 218 993 [v0, v1, v2, v3] [.int (ia_ h a i), w0, w1, w2, w3, w4] h Q) := R_iald (show mx_at 218 992 = some (.iaload, 1) by decide +kernel)
set_option maxRecDepth 20000 in
theorem i218_992f : ex_ X d 218 992 [v0, v1, v2, v3] [.int i, .float 1, w0, w1, w2, w3, w4] h Q = (mx_in i X.1 = true ∧ ex_ X d 218 993 [v0, v1, v2, v3] [.int (X.2 i.toNatClampNeg), w0, w1, w2, w3, w4] h Q) := R_ialdx (show mx_at 218 992 = some (.iaload, 1) by decide +kernel) rfl
set_option maxRecDepth 20000 in
theorem i218_993 (hc : co_ h a = some 12) : ex_ X (d + 1) 218 993 [v0, v1, v2, v3] [.int x3, .int x2, .int x1, .int x0, .ref a, w0] h Q = ev_ X d 186 [.ref a, .int x0, .int x1, .int x2, .int x3] h (fun r h' => ex_ X (d + 1) 218 996 [v0, v1, v2, v3] (r.toList ++ [w0]) h' Q) := R_vir (show mx_at 218 993 = some (.invokevirtual 112, 3) by decide +kernel) (mx_clk ow218 cc21_112) (Nat.le_of_ble_eq_true rfl) rfl rfl hc rfl (Nat.le_of_ble_eq_true rfl) (Nat.le_of_ble_eq_true rfl) (by rw [ml186]; exact Nat.le_of_ble_eq_true rfl)
set_option maxRecDepth 20000 in
theorem i218_996 : ex_ X d 218 996 [v0, v1, v2, v3] [.int y, .int x] h Q = if x = y then ex_ X d 218 1380 [v0, v1, v2, v3] [] h Q else ex_ X d 218 999 [v0, v1, v2, v3] [] h Q := (R_br (show mx_at 218 996 = some (.if_icmp .eq 384, 3) by decide +kernel) rfl rfl).trans mx_ite
set_option maxRecDepth 20000 in
theorem i218_999 : ex_ X d 218 999 [v0, v1, v2, v3] [] h Q = ex_ X d 218 1000 [v0, v1, v2, v3] [.int 0] h Q := R_iconst (show mx_at 218 999 = some (.iconst 0, 1) by decide +kernel) (by decide)
set_option maxRecDepth 20000 in
theorem i218_1000 (hx : x = 0 ∨ x = 1) : ex_ X d 218 1000 [v0, v1, v2, v3] [.int x] h Q = Q (some (.int x)) h := ex_ret (show mx_at 218 1000 = some (.ireturn, 1) by decide +kernel) (mx_retZ hx rt218)
set_option maxRecDepth 20000 in
theorem i218_1001 : ex_ X d 218 1001 [v0, .ref a, v2, v3] [] h Q = ex_ X d 218 1002 [v0, .ref a, v2, v3] [.ref a] h Q := ex_nx (show mx_at 218 1001 = some (.aload_n 1, 1) by decide +kernel) rfl
set_option maxRecDepth 20000 in
theorem i218_1001f0 : ex_ X d 218 1001 [v0, .float 1, v2, v3] [] h Q = ex_ X d 218 1002 [v0, .float 1, v2, v3] [.float 1] h Q := ex_nx (show mx_at 218 1001 = some (.aload_n 1, 1) by decide +kernel) rfl
set_option maxRecDepth 20000 in
theorem i218_1002 : ex_ X d 218 1002 [.ref a, v1, v2, v3] [w0] h Q = ex_ X d 218 1003 [.ref a, v1, v2, v3] [.ref a, w0] h Q := ex_nx (show mx_at 218 1002 = some (.aload_n 0, 1) by decide +kernel) rfl
set_option maxRecDepth 20000 in
theorem i218_1002f0 : ex_ X d 218 1002 [.float 1, v1, v2, v3] [w0] h Q = ex_ X d 218 1003 [.float 1, v1, v2, v3] [.float 1, w0] h Q := ex_nx (show mx_at 218 1002 = some (.aload_n 0, 1) by decide +kernel) rfl
set_option maxRecDepth 20000 in
theorem i218_1003 : ex_ X d 218 1003 [v0, v1, v2, .int x] [w0, w1] h Q = ex_ X d 218 1004 [v0, v1, v2, .int x] [.int x, w0, w1] h Q := ex_nx (show mx_at 218 1003 = some (.iload_n 3, 1) by decide +kernel) rfl
set_option maxRecDepth 20000 in
theorem i218_1004 : ex_ X d 218 1004 [v0, v1, v2, v3] [w0, w1, w2] h Q = ex_ X d 218 1005 [v0, v1, v2, v3] [.int 1, w0, w1, w2] h Q := R_iconst (show mx_at 218 1004 = some (.iconst 1, 1) by decide +kernel) (by decide)
set_option maxRecDepth 20000 in
theorem i218_1005 : ex_ X d 218 1005 [v0, v1, v2, v3] [.int y, .int x, w0, w1] h Q = ex_ X d 218 1006 [v0, v1, v2, v3] [.int (x + y), w0, w1] h Q := ex_nx (show mx_at 218 1005 = some (.iadd, 1) by decide +kernel) rfl
set_option maxRecDepth 20000 in
theorem i218_1006 : ex_ X d 218 1006 [v0, v1, v2, v3] [.int i, .ref a, w0] h Q = (ik_ h a i = true ∧ ex_ X d 218 1007 [v0, v1, v2, v3] [.int (ia_ h a i), w0] h Q) := R_iald (show mx_at 218 1006 = some (.iaload, 1) by decide +kernel)
set_option maxRecDepth 20000 in
theorem i218_1006f : ex_ X d 218 1006 [v0, v1, v2, v3] [.int i, .float 1, w0] h Q = (mx_in i X.1 = true ∧ ex_ X d 218 1007 [v0, v1, v2, v3] [.int (X.2 i.toNatClampNeg), w0] h Q) := R_ialdx (show mx_at 218 1006 = some (.iaload, 1) by decide +kernel) rfl
set_option maxRecDepth 20000 in
theorem i218_1007 (hc : co_ h a = some 11) : ex_ X (d + 1) 218 1007 [v0, v1, v2, v3] [.int x0, .ref a] h Q = ev_ X d 93 [.ref a, .int x0] h (fun r h' => ex_ X (d + 1) 218 1010 [v0, v1, v2, v3] (r.toList ++ []) h' Q) := R_vir (show mx_at 218 1007 = some (.invokevirtual 113, 3) by decide +kernel) (mx_clk ow218 cc21_113) (Nat.le_of_ble_eq_true rfl) rfl rfl hc rfl (Nat.le_of_ble_eq_true rfl) (Nat.le_of_ble_eq_true rfl) (by rw [ml93]; exact Nat.le_of_ble_eq_true rfl)
set_option maxRecDepth 20000 in
theorem i218_1010 : ex_ X d 218 1010 [v0, v1, .ref a, v3] [w0] h Q = ex_ X d 218 1011 [v0, v1, .ref a, v3] [.ref a, w0] h Q := ex_nx (show mx_at 218 1010 = some (.aload_n 2, 1) by decide +kernel) rfl
set_option maxRecDepth 20000 in
theorem i218_1010f0 : ex_ X d 218 1010 [v0, v1, .float 1, v3] [w0] h Q = ex_ X d 218 1011 [v0, v1, .float 1, v3] [.float 1, w0] h Q := ex_nx (show mx_at 218 1010 = some (.aload_n 2, 1) by decide +kernel) rfl
set_option maxRecDepth 20000 in
theorem i218_1011 : ex_ X d 218 1011 [.ref a, v1, v2, v3] [w0, w1] h Q = ex_ X d 218 1012 [.ref a, v1, v2, v3] [.ref a, w0, w1] h Q := ex_nx (show mx_at 218 1011 = some (.aload_n 0, 1) by decide +kernel) rfl
set_option maxRecDepth 20000 in
theorem i218_1011f0 : ex_ X d 218 1011 [.float 1, v1, v2, v3] [w0, w1] h Q = ex_ X d 218 1012 [.float 1, v1, v2, v3] [.float 1, w0, w1] h Q := ex_nx (show mx_at 218 1011 = some (.aload_n 0, 1) by decide +kernel) rfl
set_option maxRecDepth 20000 in
theorem i218_1012 : ex_ X d 218 1012 [v0, v1, v2, .int x] [w0, w1, w2] h Q = ex_ X d 218 1013 [v0, v1, v2, .int x] [.int x, w0, w1, w2] h Q := ex_nx (show mx_at 218 1012 = some (.iload_n 3, 1) by decide +kernel) rfl
set_option maxRecDepth 20000 in
theorem i218_1013 : ex_ X d 218 1013 [v0, v1, v2, v3] [w0, w1, w2, w3] h Q = ex_ X d 218 1014 [v0, v1, v2, v3] [.int 1, w0, w1, w2, w3] h Q := R_iconst (show mx_at 218 1013 = some (.iconst 1, 1) by decide +kernel) (by decide)
set_option maxRecDepth 20000 in
theorem i218_1014 : ex_ X d 218 1014 [v0, v1, v2, v3] [.int y, .int x, w0, w1, w2] h Q = ex_ X d 218 1015 [v0, v1, v2, v3] [.int (x + y), w0, w1, w2] h Q := ex_nx (show mx_at 218 1014 = some (.iadd, 1) by decide +kernel) rfl
set_option maxRecDepth 20000 in
theorem i218_1015 : ex_ X d 218 1015 [v0, v1, v2, v3] [.int i, .ref a, w0, w1] h Q = (ik_ h a i = true ∧ ex_ X d 218 1016 [v0, v1, v2, v3] [.int (ia_ h a i), w0, w1] h Q) := R_iald (show mx_at 218 1015 = some (.iaload, 1) by decide +kernel)
set_option maxRecDepth 20000 in
theorem i218_1015f : ex_ X d 218 1015 [v0, v1, v2, v3] [.int i, .float 1, w0, w1] h Q = (mx_in i X.1 = true ∧ ex_ X d 218 1016 [v0, v1, v2, v3] [.int (X.2 i.toNatClampNeg), w0, w1] h Q) := R_ialdx (show mx_at 218 1015 = some (.iaload, 1) by decide +kernel) rfl
set_option maxRecDepth 20000 in
theorem i218_1016 (hc : co_ h a = some 12) : ex_ X (d + 1) 218 1016 [v0, v1, v2, v3] [.int x0, .ref a, w0] h Q = ev_ X d 187 [.ref a, .int x0] h (fun r h' => ex_ X (d + 1) 218 1019 [v0, v1, v2, v3] (r.toList ++ [w0]) h' Q) := R_vir (show mx_at 218 1016 = some (.invokevirtual 116, 3) by decide +kernel) (mx_clk ow218 cc21_116) (Nat.le_of_ble_eq_true rfl) rfl rfl hc rfl (Nat.le_of_ble_eq_true rfl) (Nat.le_of_ble_eq_true rfl) (by rw [ml187]; exact Nat.le_of_ble_eq_true rfl)
set_option maxRecDepth 20000 in
theorem i218_1019 : ex_ X d 218 1019 [v0, v1, v2, v3] [.int y, .int x] h Q = if x = y then ex_ X d 218 1380 [v0, v1, v2, v3] [] h Q else ex_ X d 218 1022 [v0, v1, v2, v3] [] h Q := (R_br (show mx_at 218 1019 = some (.if_icmp .eq 361, 3) by decide +kernel) rfl rfl).trans mx_ite
set_option maxRecDepth 20000 in
theorem i218_1022 : ex_ X d 218 1022 [v0, v1, v2, v3] [] h Q = ex_ X d 218 1023 [v0, v1, v2, v3] [.int 0] h Q := R_iconst (show mx_at 218 1022 = some (.iconst 0, 1) by decide +kernel) (by decide)
set_option maxRecDepth 20000 in
theorem i218_1023 (hx : x = 0 ∨ x = 1) : ex_ X d 218 1023 [v0, v1, v2, v3] [.int x] h Q = Q (some (.int x)) h := ex_ret (show mx_at 218 1023 = some (.ireturn, 1) by decide +kernel) (mx_retZ hx rt218)
set_option maxRecDepth 20000 in
theorem i218_1024 : ex_ X d 218 1024 [v0, .ref a, v2, v3] [] h Q = ex_ X d 218 1025 [v0, .ref a, v2, v3] [.ref a] h Q := ex_nx (show mx_at 218 1024 = some (.aload_n 1, 1) by decide +kernel) rfl
set_option maxRecDepth 20000 in
theorem i218_1024f0 : ex_ X d 218 1024 [v0, .float 1, v2, v3] [] h Q = ex_ X d 218 1025 [v0, .float 1, v2, v3] [.float 1] h Q := ex_nx (show mx_at 218 1024 = some (.aload_n 1, 1) by decide +kernel) rfl
set_option maxRecDepth 20000 in
theorem i218_1025 : ex_ X d 218 1025 [.ref a, v1, v2, v3] [w0] h Q = ex_ X d 218 1026 [.ref a, v1, v2, v3] [.ref a, w0] h Q := ex_nx (show mx_at 218 1025 = some (.aload_n 0, 1) by decide +kernel) rfl
set_option maxRecDepth 20000 in
theorem i218_1025f0 : ex_ X d 218 1025 [.float 1, v1, v2, v3] [w0] h Q = ex_ X d 218 1026 [.float 1, v1, v2, v3] [.float 1, w0] h Q := ex_nx (show mx_at 218 1025 = some (.aload_n 0, 1) by decide +kernel) rfl
set_option maxRecDepth 20000 in
theorem i218_1026 : ex_ X d 218 1026 [v0, v1, v2, .int x] [w0, w1] h Q = ex_ X d 218 1027 [v0, v1, v2, .int x] [.int x, w0, w1] h Q := ex_nx (show mx_at 218 1026 = some (.iload_n 3, 1) by decide +kernel) rfl
set_option maxRecDepth 20000 in
theorem i218_1027 : ex_ X d 218 1027 [v0, v1, v2, v3] [w0, w1, w2] h Q = ex_ X d 218 1028 [v0, v1, v2, v3] [.int 1, w0, w1, w2] h Q := R_iconst (show mx_at 218 1027 = some (.iconst 1, 1) by decide +kernel) (by decide)
set_option maxRecDepth 20000 in
theorem i218_1028 : ex_ X d 218 1028 [v0, v1, v2, v3] [.int y, .int x, w0, w1] h Q = ex_ X d 218 1029 [v0, v1, v2, v3] [.int (x + y), w0, w1] h Q := ex_nx (show mx_at 218 1028 = some (.iadd, 1) by decide +kernel) rfl
set_option maxRecDepth 20000 in
theorem i218_1029 : ex_ X d 218 1029 [v0, v1, v2, v3] [.int i, .ref a, w0] h Q = (ik_ h a i = true ∧ ex_ X d 218 1030 [v0, v1, v2, v3] [.int (ia_ h a i), w0] h Q) := R_iald (show mx_at 218 1029 = some (.iaload, 1) by decide +kernel)
set_option maxRecDepth 20000 in
theorem i218_1029f : ex_ X d 218 1029 [v0, v1, v2, v3] [.int i, .float 1, w0] h Q = (mx_in i X.1 = true ∧ ex_ X d 218 1030 [v0, v1, v2, v3] [.int (X.2 i.toNatClampNeg), w0] h Q) := R_ialdx (show mx_at 218 1029 = some (.iaload, 1) by decide +kernel) rfl
set_option maxRecDepth 20000 in
theorem i218_1030 (hc : co_ h a = some 11) : ex_ X (d + 1) 218 1030 [v0, v1, v2, v3] [.int x0, .ref a] h Q = ev_ X d 94 [.ref a, .int x0] h (fun r h' => ex_ X (d + 1) 218 1033 [v0, v1, v2, v3] (r.toList ++ []) h' Q) := R_vir (show mx_at 218 1030 = some (.invokevirtual 117, 3) by decide +kernel) (mx_clk ow218 cc21_117) (Nat.le_of_ble_eq_true rfl) rfl rfl hc rfl (Nat.le_of_ble_eq_true rfl) (Nat.le_of_ble_eq_true rfl) (by rw [ml94]; exact Nat.le_of_ble_eq_true rfl)
set_option maxRecDepth 20000 in
theorem i218_1033 : ex_ X d 218 1033 [v0, v1, .ref a, v3] [w0] h Q = ex_ X d 218 1034 [v0, v1, .ref a, v3] [.ref a, w0] h Q := ex_nx (show mx_at 218 1033 = some (.aload_n 2, 1) by decide +kernel) rfl
set_option maxRecDepth 20000 in
theorem i218_1033f0 : ex_ X d 218 1033 [v0, v1, .float 1, v3] [w0] h Q = ex_ X d 218 1034 [v0, v1, .float 1, v3] [.float 1, w0] h Q := ex_nx (show mx_at 218 1033 = some (.aload_n 2, 1) by decide +kernel) rfl
set_option maxRecDepth 20000 in
theorem i218_1034 : ex_ X d 218 1034 [.ref a, v1, v2, v3] [w0, w1] h Q = ex_ X d 218 1035 [.ref a, v1, v2, v3] [.ref a, w0, w1] h Q := ex_nx (show mx_at 218 1034 = some (.aload_n 0, 1) by decide +kernel) rfl
set_option maxRecDepth 20000 in
theorem i218_1034f0 : ex_ X d 218 1034 [.float 1, v1, v2, v3] [w0, w1] h Q = ex_ X d 218 1035 [.float 1, v1, v2, v3] [.float 1, w0, w1] h Q := ex_nx (show mx_at 218 1034 = some (.aload_n 0, 1) by decide +kernel) rfl
set_option maxRecDepth 20000 in
theorem i218_1035 : ex_ X d 218 1035 [v0, v1, v2, .int x] [w0, w1, w2] h Q = ex_ X d 218 1036 [v0, v1, v2, .int x] [.int x, w0, w1, w2] h Q := ex_nx (show mx_at 218 1035 = some (.iload_n 3, 1) by decide +kernel) rfl
set_option maxRecDepth 20000 in
theorem i218_1036 : ex_ X d 218 1036 [v0, v1, v2, v3] [w0, w1, w2, w3] h Q = ex_ X d 218 1037 [v0, v1, v2, v3] [.int 1, w0, w1, w2, w3] h Q := R_iconst (show mx_at 218 1036 = some (.iconst 1, 1) by decide +kernel) (by decide)
set_option maxRecDepth 20000 in
theorem i218_1037 : ex_ X d 218 1037 [v0, v1, v2, v3] [.int y, .int x, w0, w1, w2] h Q = ex_ X d 218 1038 [v0, v1, v2, v3] [.int (x + y), w0, w1, w2] h Q := ex_nx (show mx_at 218 1037 = some (.iadd, 1) by decide +kernel) rfl
set_option maxRecDepth 20000 in
theorem i218_1038 : ex_ X d 218 1038 [v0, v1, v2, v3] [.int i, .ref a, w0, w1] h Q = (ik_ h a i = true ∧ ex_ X d 218 1039 [v0, v1, v2, v3] [.int (ia_ h a i), w0, w1] h Q) := R_iald (show mx_at 218 1038 = some (.iaload, 1) by decide +kernel)
set_option maxRecDepth 20000 in
theorem i218_1038f : ex_ X d 218 1038 [v0, v1, v2, v3] [.int i, .float 1, w0, w1] h Q = (mx_in i X.1 = true ∧ ex_ X d 218 1039 [v0, v1, v2, v3] [.int (X.2 i.toNatClampNeg), w0, w1] h Q) := R_ialdx (show mx_at 218 1038 = some (.iaload, 1) by decide +kernel) rfl
set_option maxRecDepth 20000 in
theorem i218_1039 (hc : co_ h a = some 12) : ex_ X (d + 1) 218 1039 [v0, v1, v2, v3] [.int x0, .ref a, w0] h Q = ev_ X d 188 [.ref a, .int x0] h (fun r h' => ex_ X (d + 1) 218 1042 [v0, v1, v2, v3] (r.toList ++ [w0]) h' Q) := R_vir (show mx_at 218 1039 = some (.invokevirtual 120, 3) by decide +kernel) (mx_clk ow218 cc21_120) (Nat.le_of_ble_eq_true rfl) rfl rfl hc rfl (Nat.le_of_ble_eq_true rfl) (Nat.le_of_ble_eq_true rfl) (by rw [ml188]; exact Nat.le_of_ble_eq_true rfl)
set_option maxRecDepth 20000 in
theorem i218_1042 : ex_ X d 218 1042 [v0, v1, v2, v3] [.int y, .int x] h Q = if x = y then ex_ X d 218 1380 [v0, v1, v2, v3] [] h Q else ex_ X d 218 1045 [v0, v1, v2, v3] [] h Q := (R_br (show mx_at 218 1042 = some (.if_icmp .eq 338, 3) by decide +kernel) rfl rfl).trans mx_ite
set_option maxRecDepth 20000 in
theorem i218_1045 : ex_ X d 218 1045 [v0, v1, v2, v3] [] h Q = ex_ X d 218 1046 [v0, v1, v2, v3] [.int 0] h Q := R_iconst (show mx_at 218 1045 = some (.iconst 0, 1) by decide +kernel) (by decide)
set_option maxRecDepth 20000 in
theorem i218_1046 (hx : x = 0 ∨ x = 1) : ex_ X d 218 1046 [v0, v1, v2, v3] [.int x] h Q = Q (some (.int x)) h := ex_ret (show mx_at 218 1046 = some (.ireturn, 1) by decide +kernel) (mx_retZ hx rt218)
set_option maxRecDepth 20000 in
theorem i218_1047 : ex_ X d 218 1047 [v0, .ref a, v2, v3] [] h Q = ex_ X d 218 1048 [v0, .ref a, v2, v3] [.ref a] h Q := ex_nx (show mx_at 218 1047 = some (.aload_n 1, 1) by decide +kernel) rfl
set_option maxRecDepth 20000 in
theorem i218_1047f0 : ex_ X d 218 1047 [v0, .float 1, v2, v3] [] h Q = ex_ X d 218 1048 [v0, .float 1, v2, v3] [.float 1] h Q := ex_nx (show mx_at 218 1047 = some (.aload_n 1, 1) by decide +kernel) rfl
set_option maxRecDepth 20000 in
theorem i218_1048 : ex_ X d 218 1048 [.ref a, v1, v2, v3] [w0] h Q = ex_ X d 218 1049 [.ref a, v1, v2, v3] [.ref a, w0] h Q := ex_nx (show mx_at 218 1048 = some (.aload_n 0, 1) by decide +kernel) rfl
set_option maxRecDepth 20000 in
theorem i218_1048f0 : ex_ X d 218 1048 [.float 1, v1, v2, v3] [w0] h Q = ex_ X d 218 1049 [.float 1, v1, v2, v3] [.float 1, w0] h Q := ex_nx (show mx_at 218 1048 = some (.aload_n 0, 1) by decide +kernel) rfl
set_option maxRecDepth 20000 in
theorem i218_1049 : ex_ X d 218 1049 [v0, v1, v2, .int x] [w0, w1] h Q = ex_ X d 218 1050 [v0, v1, v2, .int x] [.int x, w0, w1] h Q := ex_nx (show mx_at 218 1049 = some (.iload_n 3, 1) by decide +kernel) rfl
set_option maxRecDepth 20000 in
theorem i218_1050 : ex_ X d 218 1050 [v0, v1, v2, v3] [w0, w1, w2] h Q = ex_ X d 218 1051 [v0, v1, v2, v3] [.int 1, w0, w1, w2] h Q := R_iconst (show mx_at 218 1050 = some (.iconst 1, 1) by decide +kernel) (by decide)
set_option maxRecDepth 20000 in
theorem i218_1051 : ex_ X d 218 1051 [v0, v1, v2, v3] [.int y, .int x, w0, w1] h Q = ex_ X d 218 1052 [v0, v1, v2, v3] [.int (x + y), w0, w1] h Q := ex_nx (show mx_at 218 1051 = some (.iadd, 1) by decide +kernel) rfl
set_option maxRecDepth 20000 in
theorem i218_1052 : ex_ X d 218 1052 [v0, v1, v2, v3] [.int i, .ref a, w0] h Q = (ik_ h a i = true ∧ ex_ X d 218 1053 [v0, v1, v2, v3] [.int (ia_ h a i), w0] h Q) := R_iald (show mx_at 218 1052 = some (.iaload, 1) by decide +kernel)
set_option maxRecDepth 20000 in
theorem i218_1052f : ex_ X d 218 1052 [v0, v1, v2, v3] [.int i, .float 1, w0] h Q = (mx_in i X.1 = true ∧ ex_ X d 218 1053 [v0, v1, v2, v3] [.int (X.2 i.toNatClampNeg), w0] h Q) := R_ialdx (show mx_at 218 1052 = some (.iaload, 1) by decide +kernel) rfl
set_option maxRecDepth 20000 in
theorem i218_1053 : ex_ X d 218 1053 [.ref a, v1, v2, v3] [w0, w1] h Q = ex_ X d 218 1054 [.ref a, v1, v2, v3] [.ref a, w0, w1] h Q := ex_nx (show mx_at 218 1053 = some (.aload_n 0, 1) by decide +kernel) rfl
set_option maxRecDepth 20000 in
theorem i218_1053f0 : ex_ X d 218 1053 [.float 1, v1, v2, v3] [w0, w1] h Q = ex_ X d 218 1054 [.float 1, v1, v2, v3] [.float 1, w0, w1] h Q := ex_nx (show mx_at 218 1053 = some (.aload_n 0, 1) by decide +kernel) rfl
set_option maxRecDepth 20000 in
theorem i218_1054 : ex_ X d 218 1054 [v0, v1, v2, .int x] [w0, w1, w2] h Q = ex_ X d 218 1055 [v0, v1, v2, .int x] [.int x, w0, w1, w2] h Q := ex_nx (show mx_at 218 1054 = some (.iload_n 3, 1) by decide +kernel) rfl
set_option maxRecDepth 20000 in
theorem i218_1055 : ex_ X d 218 1055 [v0, v1, v2, v3] [w0, w1, w2, w3] h Q = ex_ X d 218 1056 [v0, v1, v2, v3] [.int 2, w0, w1, w2, w3] h Q := R_iconst (show mx_at 218 1055 = some (.iconst 2, 1) by decide +kernel) (by decide)
set_option maxRecDepth 20000 in
theorem i218_1056 : ex_ X d 218 1056 [v0, v1, v2, v3] [.int y, .int x, w0, w1, w2] h Q = ex_ X d 218 1057 [v0, v1, v2, v3] [.int (x + y), w0, w1, w2] h Q := ex_nx (show mx_at 218 1056 = some (.iadd, 1) by decide +kernel) rfl
set_option maxRecDepth 20000 in
theorem i218_1057 : ex_ X d 218 1057 [v0, v1, v2, v3] [.int i, .ref a, w0, w1] h Q = (ik_ h a i = true ∧ ex_ X d 218 1058 [v0, v1, v2, v3] [.int (ia_ h a i), w0, w1] h Q) := R_iald (show mx_at 218 1057 = some (.iaload, 1) by decide +kernel)
set_option maxRecDepth 20000 in
theorem i218_1057f : ex_ X d 218 1057 [v0, v1, v2, v3] [.int i, .float 1, w0, w1] h Q = (mx_in i X.1 = true ∧ ex_ X d 218 1058 [v0, v1, v2, v3] [.int (X.2 i.toNatClampNeg), w0, w1] h Q) := R_ialdx (show mx_at 218 1057 = some (.iaload, 1) by decide +kernel) rfl
set_option maxRecDepth 20000 in
theorem i218_1058 : ex_ X d 218 1058 [.ref a, v1, v2, v3] [w0, w1, w2] h Q = ex_ X d 218 1059 [.ref a, v1, v2, v3] [.ref a, w0, w1, w2] h Q := ex_nx (show mx_at 218 1058 = some (.aload_n 0, 1) by decide +kernel) rfl
set_option maxRecDepth 20000 in
theorem i218_1058f0 : ex_ X d 218 1058 [.float 1, v1, v2, v3] [w0, w1, w2] h Q = ex_ X d 218 1059 [.float 1, v1, v2, v3] [.float 1, w0, w1, w2] h Q := ex_nx (show mx_at 218 1058 = some (.aload_n 0, 1) by decide +kernel) rfl
set_option maxRecDepth 20000 in
theorem i218_1059 : ex_ X d 218 1059 [v0, v1, v2, .int x] [w0, w1, w2, w3] h Q = ex_ X d 218 1060 [v0, v1, v2, .int x] [.int x, w0, w1, w2, w3] h Q := ex_nx (show mx_at 218 1059 = some (.iload_n 3, 1) by decide +kernel) rfl
set_option maxRecDepth 20000 in
theorem i218_1060 : ex_ X d 218 1060 [v0, v1, v2, v3] [w0, w1, w2, w3, w4] h Q = ex_ X d 218 1061 [v0, v1, v2, v3] [.int 3, w0, w1, w2, w3, w4] h Q := R_iconst (show mx_at 218 1060 = some (.iconst 3, 1) by decide +kernel) (by decide)
set_option maxRecDepth 20000 in
theorem i218_1061 : ex_ X d 218 1061 [v0, v1, v2, v3] [.int y, .int x, w0, w1, w2, w3] h Q = ex_ X d 218 1062 [v0, v1, v2, v3] [.int (x + y), w0, w1, w2, w3] h Q := ex_nx (show mx_at 218 1061 = some (.iadd, 1) by decide +kernel) rfl
set_option maxRecDepth 20000 in
theorem i218_1062 : ex_ X d 218 1062 [v0, v1, v2, v3] [.int i, .ref a, w0, w1, w2] h Q = (ik_ h a i = true ∧ ex_ X d 218 1063 [v0, v1, v2, v3] [.int (ia_ h a i), w0, w1, w2] h Q) := R_iald (show mx_at 218 1062 = some (.iaload, 1) by decide +kernel)
set_option maxRecDepth 20000 in
theorem i218_1062f : ex_ X d 218 1062 [v0, v1, v2, v3] [.int i, .float 1, w0, w1, w2] h Q = (mx_in i X.1 = true ∧ ex_ X d 218 1063 [v0, v1, v2, v3] [.int (X.2 i.toNatClampNeg), w0, w1, w2] h Q) := R_ialdx (show mx_at 218 1062 = some (.iaload, 1) by decide +kernel) rfl
set_option maxRecDepth 20000 in
theorem i218_1063 (hc : co_ h a = some 11) : ex_ X (d + 1) 218 1063 [v0, v1, v2, v3] [.int x2, .int x1, .int x0, .ref a] h Q = ev_ X d 95 [.ref a, .int x0, .int x1, .int x2] h (fun r h' => ex_ X (d + 1) 218 1066 [v0, v1, v2, v3] (r.toList ++ []) h' Q) := R_vir (show mx_at 218 1063 = some (.invokevirtual 121, 3) by decide +kernel) (mx_clk ow218 cc21_121) (Nat.le_of_ble_eq_true rfl) rfl rfl hc rfl (Nat.le_of_ble_eq_true rfl) (Nat.le_of_ble_eq_true rfl) (by rw [ml95]; exact Nat.le_of_ble_eq_true rfl)
set_option maxRecDepth 20000 in
theorem i218_1066 : ex_ X d 218 1066 [v0, v1, .ref a, v3] [w0] h Q = ex_ X d 218 1067 [v0, v1, .ref a, v3] [.ref a, w0] h Q := ex_nx (show mx_at 218 1066 = some (.aload_n 2, 1) by decide +kernel) rfl
set_option maxRecDepth 20000 in
theorem i218_1066f0 : ex_ X d 218 1066 [v0, v1, .float 1, v3] [w0] h Q = ex_ X d 218 1067 [v0, v1, .float 1, v3] [.float 1, w0] h Q := ex_nx (show mx_at 218 1066 = some (.aload_n 2, 1) by decide +kernel) rfl
set_option maxRecDepth 20000 in
theorem i218_1067 : ex_ X d 218 1067 [.ref a, v1, v2, v3] [w0, w1] h Q = ex_ X d 218 1068 [.ref a, v1, v2, v3] [.ref a, w0, w1] h Q := ex_nx (show mx_at 218 1067 = some (.aload_n 0, 1) by decide +kernel) rfl
set_option maxRecDepth 20000 in
theorem i218_1067f0 : ex_ X d 218 1067 [.float 1, v1, v2, v3] [w0, w1] h Q = ex_ X d 218 1068 [.float 1, v1, v2, v3] [.float 1, w0, w1] h Q := ex_nx (show mx_at 218 1067 = some (.aload_n 0, 1) by decide +kernel) rfl
set_option maxRecDepth 20000 in
theorem i218_1068 : ex_ X d 218 1068 [v0, v1, v2, .int x] [w0, w1, w2] h Q = ex_ X d 218 1069 [v0, v1, v2, .int x] [.int x, w0, w1, w2] h Q := ex_nx (show mx_at 218 1068 = some (.iload_n 3, 1) by decide +kernel) rfl
set_option maxRecDepth 20000 in
theorem i218_1069 : ex_ X d 218 1069 [v0, v1, v2, v3] [w0, w1, w2, w3] h Q = ex_ X d 218 1070 [v0, v1, v2, v3] [.int 1, w0, w1, w2, w3] h Q := R_iconst (show mx_at 218 1069 = some (.iconst 1, 1) by decide +kernel) (by decide)
set_option maxRecDepth 20000 in
theorem i218_1070 : ex_ X d 218 1070 [v0, v1, v2, v3] [.int y, .int x, w0, w1, w2] h Q = ex_ X d 218 1071 [v0, v1, v2, v3] [.int (x + y), w0, w1, w2] h Q := ex_nx (show mx_at 218 1070 = some (.iadd, 1) by decide +kernel) rfl
set_option maxRecDepth 20000 in
theorem i218_1071 : ex_ X d 218 1071 [v0, v1, v2, v3] [.int i, .ref a, w0, w1] h Q = (ik_ h a i = true ∧ ex_ X d 218 1072 [v0, v1, v2, v3] [.int (ia_ h a i), w0, w1] h Q) := R_iald (show mx_at 218 1071 = some (.iaload, 1) by decide +kernel)
set_option maxRecDepth 20000 in
theorem i218_1071f : ex_ X d 218 1071 [v0, v1, v2, v3] [.int i, .float 1, w0, w1] h Q = (mx_in i X.1 = true ∧ ex_ X d 218 1072 [v0, v1, v2, v3] [.int (X.2 i.toNatClampNeg), w0, w1] h Q) := R_ialdx (show mx_at 218 1071 = some (.iaload, 1) by decide +kernel) rfl
set_option maxRecDepth 20000 in
theorem i218_1072 : ex_ X d 218 1072 [.ref a, v1, v2, v3] [w0, w1, w2] h Q = ex_ X d 218 1073 [.ref a, v1, v2, v3] [.ref a, w0, w1, w2] h Q := ex_nx (show mx_at 218 1072 = some (.aload_n 0, 1) by decide +kernel) rfl
set_option maxRecDepth 20000 in
theorem i218_1072f0 : ex_ X d 218 1072 [.float 1, v1, v2, v3] [w0, w1, w2] h Q = ex_ X d 218 1073 [.float 1, v1, v2, v3] [.float 1, w0, w1, w2] h Q := ex_nx (show mx_at 218 1072 = some (.aload_n 0, 1) by decide +kernel) rfl
set_option maxRecDepth 20000 in
theorem i218_1073 : ex_ X d 218 1073 [v0, v1, v2, .int x] [w0, w1, w2, w3] h Q = ex_ X d 218 1074 [v0, v1, v2, .int x] [.int x, w0, w1, w2, w3] h Q := ex_nx (show mx_at 218 1073 = some (.iload_n 3, 1) by decide +kernel) rfl
set_option maxRecDepth 20000 in
theorem i218_1074 : ex_ X d 218 1074 [v0, v1, v2, v3] [w0, w1, w2, w3, w4] h Q = ex_ X d 218 1075 [v0, v1, v2, v3] [.int 2, w0, w1, w2, w3, w4] h Q := R_iconst (show mx_at 218 1074 = some (.iconst 2, 1) by decide +kernel) (by decide)
set_option maxRecDepth 20000 in
theorem i218_1075 : ex_ X d 218 1075 [v0, v1, v2, v3] [.int y, .int x, w0, w1, w2, w3] h Q = ex_ X d 218 1076 [v0, v1, v2, v3] [.int (x + y), w0, w1, w2, w3] h Q := ex_nx (show mx_at 218 1075 = some (.iadd, 1) by decide +kernel) rfl
set_option maxRecDepth 20000 in
theorem i218_1076 : ex_ X d 218 1076 [v0, v1, v2, v3] [.int i, .ref a, w0, w1, w2] h Q = (ik_ h a i = true ∧ ex_ X d 218 1077 [v0, v1, v2, v3] [.int (ia_ h a i), w0, w1, w2] h Q) := R_iald (show mx_at 218 1076 = some (.iaload, 1) by decide +kernel)
set_option maxRecDepth 20000 in
theorem i218_1076f : ex_ X d 218 1076 [v0, v1, v2, v3] [.int i, .float 1, w0, w1, w2] h Q = (mx_in i X.1 = true ∧ ex_ X d 218 1077 [v0, v1, v2, v3] [.int (X.2 i.toNatClampNeg), w0, w1, w2] h Q) := R_ialdx (show mx_at 218 1076 = some (.iaload, 1) by decide +kernel) rfl
set_option maxRecDepth 20000 in
theorem i218_1077 : ex_ X d 218 1077 [.ref a, v1, v2, v3] [w0, w1, w2, w3] h Q = ex_ X d 218 1078 [.ref a, v1, v2, v3] [.ref a, w0, w1, w2, w3] h Q := ex_nx (show mx_at 218 1077 = some (.aload_n 0, 1) by decide +kernel) rfl
set_option maxRecDepth 20000 in
theorem i218_1077f0 : ex_ X d 218 1077 [.float 1, v1, v2, v3] [w0, w1, w2, w3] h Q = ex_ X d 218 1078 [.float 1, v1, v2, v3] [.float 1, w0, w1, w2, w3] h Q := ex_nx (show mx_at 218 1077 = some (.aload_n 0, 1) by decide +kernel) rfl
set_option maxRecDepth 20000 in
theorem i218_1078 : ex_ X d 218 1078 [v0, v1, v2, .int x] [w0, w1, w2, w3, w4] h Q = ex_ X d 218 1079 [v0, v1, v2, .int x] [.int x, w0, w1, w2, w3, w4] h Q := ex_nx (show mx_at 218 1078 = some (.iload_n 3, 1) by decide +kernel) rfl
set_option maxRecDepth 20000 in
theorem i218_1079 : ex_ X d 218 1079 [v0, v1, v2, v3] [w0, w1, w2, w3, w4, w5] h Q = ex_ X d 218 1080 [v0, v1, v2, v3] [.int 3, w0, w1, w2, w3, w4, w5] h Q := R_iconst (show mx_at 218 1079 = some (.iconst 3, 1) by decide +kernel) (by decide)
set_option maxRecDepth 20000 in
theorem i218_1080 : ex_ X d 218 1080 [v0, v1, v2, v3] [.int y, .int x, w0, w1, w2, w3, w4] h Q = ex_ X d 218 1081 [v0, v1, v2, v3] [.int (x + y), w0, w1, w2, w3, w4] h Q := ex_nx (show mx_at 218 1080 = some (.iadd, 1) by decide +kernel) rfl
set_option maxRecDepth 20000 in
theorem i218_1081 : ex_ X d 218 1081 [v0, v1, v2, v3] [.int i, .ref a, w0, w1, w2, w3] h Q = (ik_ h a i = true ∧ ex_ X d 218 1082 [v0, v1, v2, v3] [.int (ia_ h a i), w0, w1, w2, w3] h Q) := R_iald (show mx_at 218 1081 = some (.iaload, 1) by decide +kernel)
set_option maxRecDepth 20000 in
theorem i218_1081f : ex_ X d 218 1081 [v0, v1, v2, v3] [.int i, .float 1, w0, w1, w2, w3] h Q = (mx_in i X.1 = true ∧ ex_ X d 218 1082 [v0, v1, v2, v3] [.int (X.2 i.toNatClampNeg), w0, w1, w2, w3] h Q) := R_ialdx (show mx_at 218 1081 = some (.iaload, 1) by decide +kernel) rfl
set_option maxRecDepth 20000 in
theorem i218_1082 (hc : co_ h a = some 12) : ex_ X (d + 1) 218 1082 [v0, v1, v2, v3] [.int x2, .int x1, .int x0, .ref a, w0] h Q = ev_ X d 196 [.ref a, .int x0, .int x1, .int x2] h (fun r h' => ex_ X (d + 1) 218 1085 [v0, v1, v2, v3] (r.toList ++ [w0]) h' Q) := R_vir (show mx_at 218 1082 = some (.invokevirtual 124, 3) by decide +kernel) (mx_clk ow218 cc21_124) (Nat.le_of_ble_eq_true rfl) rfl rfl hc rfl (Nat.le_of_ble_eq_true rfl) (Nat.le_of_ble_eq_true rfl) (by rw [ml196]; exact Nat.le_of_ble_eq_true rfl)
set_option maxRecDepth 20000 in
theorem i218_1085 : ex_ X d 218 1085 [v0, v1, v2, v3] [.int y, .int x] h Q = if x = y then ex_ X d 218 1380 [v0, v1, v2, v3] [] h Q else ex_ X d 218 1088 [v0, v1, v2, v3] [] h Q := (R_br (show mx_at 218 1085 = some (.if_icmp .eq 295, 3) by decide +kernel) rfl rfl).trans mx_ite
set_option maxRecDepth 20000 in
theorem i218_1088 : ex_ X d 218 1088 [v0, v1, v2, v3] [] h Q = ex_ X d 218 1089 [v0, v1, v2, v3] [.int 0] h Q := R_iconst (show mx_at 218 1088 = some (.iconst 0, 1) by decide +kernel) (by decide)
set_option maxRecDepth 20000 in
theorem i218_1089 (hx : x = 0 ∨ x = 1) : ex_ X d 218 1089 [v0, v1, v2, v3] [.int x] h Q = Q (some (.int x)) h := ex_ret (show mx_at 218 1089 = some (.ireturn, 1) by decide +kernel) (mx_retZ hx rt218)
set_option maxRecDepth 20000 in
theorem i218_1090 : ex_ X d 218 1090 [v0, .ref a, v2, v3] [] h Q = ex_ X d 218 1091 [v0, .ref a, v2, v3] [.ref a] h Q := ex_nx (show mx_at 218 1090 = some (.aload_n 1, 1) by decide +kernel) rfl
set_option maxRecDepth 20000 in
theorem i218_1090f0 : ex_ X d 218 1090 [v0, .float 1, v2, v3] [] h Q = ex_ X d 218 1091 [v0, .float 1, v2, v3] [.float 1] h Q := ex_nx (show mx_at 218 1090 = some (.aload_n 1, 1) by decide +kernel) rfl
set_option maxRecDepth 20000 in
theorem i218_1091 : ex_ X d 218 1091 [.ref a, v1, v2, v3] [w0] h Q = ex_ X d 218 1092 [.ref a, v1, v2, v3] [.ref a, w0] h Q := ex_nx (show mx_at 218 1091 = some (.aload_n 0, 1) by decide +kernel) rfl
set_option maxRecDepth 20000 in
theorem i218_1091f0 : ex_ X d 218 1091 [.float 1, v1, v2, v3] [w0] h Q = ex_ X d 218 1092 [.float 1, v1, v2, v3] [.float 1, w0] h Q := ex_nx (show mx_at 218 1091 = some (.aload_n 0, 1) by decide +kernel) rfl
set_option maxRecDepth 20000 in
theorem i218_1092 : ex_ X d 218 1092 [v0, v1, v2, .int x] [w0, w1] h Q = ex_ X d 218 1093 [v0, v1, v2, .int x] [.int x, w0, w1] h Q := ex_nx (show mx_at 218 1092 = some (.iload_n 3, 1) by decide +kernel) rfl
set_option maxRecDepth 20000 in
theorem i218_1093 : ex_ X d 218 1093 [v0, v1, v2, v3] [w0, w1, w2] h Q = ex_ X d 218 1094 [v0, v1, v2, v3] [.int 1, w0, w1, w2] h Q := R_iconst (show mx_at 218 1093 = some (.iconst 1, 1) by decide +kernel) (by decide)
set_option maxRecDepth 20000 in
theorem i218_1094 : ex_ X d 218 1094 [v0, v1, v2, v3] [.int y, .int x, w0, w1] h Q = ex_ X d 218 1095 [v0, v1, v2, v3] [.int (x + y), w0, w1] h Q := ex_nx (show mx_at 218 1094 = some (.iadd, 1) by decide +kernel) rfl
set_option maxRecDepth 20000 in
theorem i218_1095 : ex_ X d 218 1095 [v0, v1, v2, v3] [.int i, .ref a, w0] h Q = (ik_ h a i = true ∧ ex_ X d 218 1096 [v0, v1, v2, v3] [.int (ia_ h a i), w0] h Q) := R_iald (show mx_at 218 1095 = some (.iaload, 1) by decide +kernel)
set_option maxRecDepth 20000 in
theorem i218_1095f : ex_ X d 218 1095 [v0, v1, v2, v3] [.int i, .float 1, w0] h Q = (mx_in i X.1 = true ∧ ex_ X d 218 1096 [v0, v1, v2, v3] [.int (X.2 i.toNatClampNeg), w0] h Q) := R_ialdx (show mx_at 218 1095 = some (.iaload, 1) by decide +kernel) rfl
set_option maxRecDepth 20000 in
theorem i218_1096 (hc : co_ h a = some 11) : ex_ X (d + 1) 218 1096 [v0, v1, v2, v3] [.int x0, .ref a] h Q = ev_ X d 96 [.ref a, .int x0] h (fun r h' => ex_ X (d + 1) 218 1099 [v0, v1, v2, v3] (r.toList ++ []) h' Q) := R_vir (show mx_at 218 1096 = some (.invokevirtual 125, 3) by decide +kernel) (mx_clk ow218 cc21_125) (Nat.le_of_ble_eq_true rfl) rfl rfl hc rfl (Nat.le_of_ble_eq_true rfl) (Nat.le_of_ble_eq_true rfl) (by rw [ml96]; exact Nat.le_of_ble_eq_true rfl)
set_option maxRecDepth 20000 in
theorem i218_1099 : ex_ X d 218 1099 [v0, v1, .ref a, v3] [w0] h Q = ex_ X d 218 1100 [v0, v1, .ref a, v3] [.ref a, w0] h Q := ex_nx (show mx_at 218 1099 = some (.aload_n 2, 1) by decide +kernel) rfl
set_option maxRecDepth 20000 in
theorem i218_1099f0 : ex_ X d 218 1099 [v0, v1, .float 1, v3] [w0] h Q = ex_ X d 218 1100 [v0, v1, .float 1, v3] [.float 1, w0] h Q := ex_nx (show mx_at 218 1099 = some (.aload_n 2, 1) by decide +kernel) rfl
set_option maxRecDepth 20000 in
theorem i218_1100 : ex_ X d 218 1100 [.ref a, v1, v2, v3] [w0, w1] h Q = ex_ X d 218 1101 [.ref a, v1, v2, v3] [.ref a, w0, w1] h Q := ex_nx (show mx_at 218 1100 = some (.aload_n 0, 1) by decide +kernel) rfl
set_option maxRecDepth 20000 in
theorem i218_1100f0 : ex_ X d 218 1100 [.float 1, v1, v2, v3] [w0, w1] h Q = ex_ X d 218 1101 [.float 1, v1, v2, v3] [.float 1, w0, w1] h Q := ex_nx (show mx_at 218 1100 = some (.aload_n 0, 1) by decide +kernel) rfl
set_option maxRecDepth 20000 in
theorem i218_1101 : ex_ X d 218 1101 [v0, v1, v2, .int x] [w0, w1, w2] h Q = ex_ X d 218 1102 [v0, v1, v2, .int x] [.int x, w0, w1, w2] h Q := ex_nx (show mx_at 218 1101 = some (.iload_n 3, 1) by decide +kernel) rfl
set_option maxRecDepth 20000 in
theorem i218_1102 : ex_ X d 218 1102 [v0, v1, v2, v3] [w0, w1, w2, w3] h Q = ex_ X d 218 1103 [v0, v1, v2, v3] [.int 1, w0, w1, w2, w3] h Q := R_iconst (show mx_at 218 1102 = some (.iconst 1, 1) by decide +kernel) (by decide)
set_option maxRecDepth 20000 in
theorem i218_1103 : ex_ X d 218 1103 [v0, v1, v2, v3] [.int y, .int x, w0, w1, w2] h Q = ex_ X d 218 1104 [v0, v1, v2, v3] [.int (x + y), w0, w1, w2] h Q := ex_nx (show mx_at 218 1103 = some (.iadd, 1) by decide +kernel) rfl
set_option maxRecDepth 20000 in
theorem i218_1104 : ex_ X d 218 1104 [v0, v1, v2, v3] [.int i, .ref a, w0, w1] h Q = (ik_ h a i = true ∧ ex_ X d 218 1105 [v0, v1, v2, v3] [.int (ia_ h a i), w0, w1] h Q) := R_iald (show mx_at 218 1104 = some (.iaload, 1) by decide +kernel)
set_option maxRecDepth 20000 in
theorem i218_1104f : ex_ X d 218 1104 [v0, v1, v2, v3] [.int i, .float 1, w0, w1] h Q = (mx_in i X.1 = true ∧ ex_ X d 218 1105 [v0, v1, v2, v3] [.int (X.2 i.toNatClampNeg), w0, w1] h Q) := R_ialdx (show mx_at 218 1104 = some (.iaload, 1) by decide +kernel) rfl
set_option maxRecDepth 20000 in
theorem i218_1105 (hc : co_ h a = some 12) : ex_ X (d + 1) 218 1105 [v0, v1, v2, v3] [.int x0, .ref a, w0] h Q = ev_ X d 197 [.ref a, .int x0] h (fun r h' => ex_ X (d + 1) 218 1108 [v0, v1, v2, v3] (r.toList ++ [w0]) h' Q) := R_vir (show mx_at 218 1105 = some (.invokevirtual 128, 3) by decide +kernel) (mx_clk ow218 cc21_128) (Nat.le_of_ble_eq_true rfl) rfl rfl hc rfl (Nat.le_of_ble_eq_true rfl) (Nat.le_of_ble_eq_true rfl) (by rw [ml197]; exact Nat.le_of_ble_eq_true rfl)
set_option maxRecDepth 20000 in
theorem i218_1108 : ex_ X d 218 1108 [v0, v1, v2, v3] [.int y, .int x] h Q = if x = y then ex_ X d 218 1380 [v0, v1, v2, v3] [] h Q else ex_ X d 218 1111 [v0, v1, v2, v3] [] h Q := (R_br (show mx_at 218 1108 = some (.if_icmp .eq 272, 3) by decide +kernel) rfl rfl).trans mx_ite
set_option maxRecDepth 20000 in
theorem i218_1111 : ex_ X d 218 1111 [v0, v1, v2, v3] [] h Q = ex_ X d 218 1112 [v0, v1, v2, v3] [.int 0] h Q := R_iconst (show mx_at 218 1111 = some (.iconst 0, 1) by decide +kernel) (by decide)
set_option maxRecDepth 20000 in
theorem i218_1112 (hx : x = 0 ∨ x = 1) : ex_ X d 218 1112 [v0, v1, v2, v3] [.int x] h Q = Q (some (.int x)) h := ex_ret (show mx_at 218 1112 = some (.ireturn, 1) by decide +kernel) (mx_retZ hx rt218)
set_option maxRecDepth 20000 in
theorem i218_1113 : ex_ X d 218 1113 [v0, .ref a, v2, v3] [] h Q = ex_ X d 218 1114 [v0, .ref a, v2, v3] [.ref a] h Q := ex_nx (show mx_at 218 1113 = some (.aload_n 1, 1) by decide +kernel) rfl
set_option maxRecDepth 20000 in
theorem i218_1113f0 : ex_ X d 218 1113 [v0, .float 1, v2, v3] [] h Q = ex_ X d 218 1114 [v0, .float 1, v2, v3] [.float 1] h Q := ex_nx (show mx_at 218 1113 = some (.aload_n 1, 1) by decide +kernel) rfl
set_option maxRecDepth 20000 in
theorem i218_1114 : ex_ X d 218 1114 [.ref a, v1, v2, v3] [w0] h Q = ex_ X d 218 1115 [.ref a, v1, v2, v3] [.ref a, w0] h Q := ex_nx (show mx_at 218 1114 = some (.aload_n 0, 1) by decide +kernel) rfl
set_option maxRecDepth 20000 in
theorem i218_1114f0 : ex_ X d 218 1114 [.float 1, v1, v2, v3] [w0] h Q = ex_ X d 218 1115 [.float 1, v1, v2, v3] [.float 1, w0] h Q := ex_nx (show mx_at 218 1114 = some (.aload_n 0, 1) by decide +kernel) rfl
set_option maxRecDepth 20000 in
theorem i218_1115 : ex_ X d 218 1115 [v0, v1, v2, .int x] [w0, w1] h Q = ex_ X d 218 1116 [v0, v1, v2, .int x] [.int x, w0, w1] h Q := ex_nx (show mx_at 218 1115 = some (.iload_n 3, 1) by decide +kernel) rfl
set_option maxRecDepth 20000 in
theorem i218_1116 : ex_ X d 218 1116 [v0, v1, v2, v3] [w0, w1, w2] h Q = ex_ X d 218 1117 [v0, v1, v2, v3] [.int 1, w0, w1, w2] h Q := R_iconst (show mx_at 218 1116 = some (.iconst 1, 1) by decide +kernel) (by decide)
set_option maxRecDepth 20000 in
theorem i218_1117 : ex_ X d 218 1117 [v0, v1, v2, v3] [.int y, .int x, w0, w1] h Q = ex_ X d 218 1118 [v0, v1, v2, v3] [.int (x + y), w0, w1] h Q := ex_nx (show mx_at 218 1117 = some (.iadd, 1) by decide +kernel) rfl
set_option maxRecDepth 20000 in
theorem i218_1118 : ex_ X d 218 1118 [v0, v1, v2, v3] [.int i, .ref a, w0] h Q = (ik_ h a i = true ∧ ex_ X d 218 1119 [v0, v1, v2, v3] [.int (ia_ h a i), w0] h Q) := R_iald (show mx_at 218 1118 = some (.iaload, 1) by decide +kernel)
set_option maxRecDepth 20000 in
theorem i218_1118f : ex_ X d 218 1118 [v0, v1, v2, v3] [.int i, .float 1, w0] h Q = (mx_in i X.1 = true ∧ ex_ X d 218 1119 [v0, v1, v2, v3] [.int (X.2 i.toNatClampNeg), w0] h Q) := R_ialdx (show mx_at 218 1118 = some (.iaload, 1) by decide +kernel) rfl
set_option maxRecDepth 20000 in
theorem i218_1119 : ex_ X d 218 1119 [.ref a, v1, v2, v3] [w0, w1] h Q = ex_ X d 218 1120 [.ref a, v1, v2, v3] [.ref a, w0, w1] h Q := ex_nx (show mx_at 218 1119 = some (.aload_n 0, 1) by decide +kernel) rfl
set_option maxRecDepth 20000 in
theorem i218_1119f0 : ex_ X d 218 1119 [.float 1, v1, v2, v3] [w0, w1] h Q = ex_ X d 218 1120 [.float 1, v1, v2, v3] [.float 1, w0, w1] h Q := ex_nx (show mx_at 218 1119 = some (.aload_n 0, 1) by decide +kernel) rfl
set_option maxRecDepth 20000 in
theorem i218_1120 : ex_ X d 218 1120 [v0, v1, v2, .int x] [w0, w1, w2] h Q = ex_ X d 218 1121 [v0, v1, v2, .int x] [.int x, w0, w1, w2] h Q := ex_nx (show mx_at 218 1120 = some (.iload_n 3, 1) by decide +kernel) rfl
set_option maxRecDepth 20000 in
theorem i218_1121 : ex_ X d 218 1121 [v0, v1, v2, v3] [w0, w1, w2, w3] h Q = ex_ X d 218 1122 [v0, v1, v2, v3] [.int 2, w0, w1, w2, w3] h Q := R_iconst (show mx_at 218 1121 = some (.iconst 2, 1) by decide +kernel) (by decide)
set_option maxRecDepth 20000 in
theorem i218_1122 : ex_ X d 218 1122 [v0, v1, v2, v3] [.int y, .int x, w0, w1, w2] h Q = ex_ X d 218 1123 [v0, v1, v2, v3] [.int (x + y), w0, w1, w2] h Q := ex_nx (show mx_at 218 1122 = some (.iadd, 1) by decide +kernel) rfl
set_option maxRecDepth 20000 in
theorem i218_1123 : ex_ X d 218 1123 [v0, v1, v2, v3] [.int i, .ref a, w0, w1] h Q = (ik_ h a i = true ∧ ex_ X d 218 1124 [v0, v1, v2, v3] [.int (ia_ h a i), w0, w1] h Q) := R_iald (show mx_at 218 1123 = some (.iaload, 1) by decide +kernel)
set_option maxRecDepth 20000 in
theorem i218_1123f : ex_ X d 218 1123 [v0, v1, v2, v3] [.int i, .float 1, w0, w1] h Q = (mx_in i X.1 = true ∧ ex_ X d 218 1124 [v0, v1, v2, v3] [.int (X.2 i.toNatClampNeg), w0, w1] h Q) := R_ialdx (show mx_at 218 1123 = some (.iaload, 1) by decide +kernel) rfl
set_option maxRecDepth 20000 in
theorem i218_1124 : ex_ X d 218 1124 [.ref a, v1, v2, v3] [w0, w1, w2] h Q = ex_ X d 218 1125 [.ref a, v1, v2, v3] [.ref a, w0, w1, w2] h Q := ex_nx (show mx_at 218 1124 = some (.aload_n 0, 1) by decide +kernel) rfl
set_option maxRecDepth 20000 in
theorem i218_1124f0 : ex_ X d 218 1124 [.float 1, v1, v2, v3] [w0, w1, w2] h Q = ex_ X d 218 1125 [.float 1, v1, v2, v3] [.float 1, w0, w1, w2] h Q := ex_nx (show mx_at 218 1124 = some (.aload_n 0, 1) by decide +kernel) rfl
set_option maxRecDepth 20000 in
theorem i218_1125 : ex_ X d 218 1125 [v0, v1, v2, .int x] [w0, w1, w2, w3] h Q = ex_ X d 218 1126 [v0, v1, v2, .int x] [.int x, w0, w1, w2, w3] h Q := ex_nx (show mx_at 218 1125 = some (.iload_n 3, 1) by decide +kernel) rfl
set_option maxRecDepth 20000 in
theorem i218_1126 : ex_ X d 218 1126 [v0, v1, v2, v3] [w0, w1, w2, w3, w4] h Q = ex_ X d 218 1127 [v0, v1, v2, v3] [.int 3, w0, w1, w2, w3, w4] h Q := R_iconst (show mx_at 218 1126 = some (.iconst 3, 1) by decide +kernel) (by decide)
set_option maxRecDepth 20000 in
theorem i218_1127 : ex_ X d 218 1127 [v0, v1, v2, v3] [.int y, .int x, w0, w1, w2, w3] h Q = ex_ X d 218 1128 [v0, v1, v2, v3] [.int (x + y), w0, w1, w2, w3] h Q := ex_nx (show mx_at 218 1127 = some (.iadd, 1) by decide +kernel) rfl
set_option maxRecDepth 20000 in
theorem i218_1128 : ex_ X d 218 1128 [v0, v1, v2, v3] [.int i, .ref a, w0, w1, w2] h Q = (ik_ h a i = true ∧ ex_ X d 218 1129 [v0, v1, v2, v3] [.int (ia_ h a i), w0, w1, w2] h Q) := R_iald (show mx_at 218 1128 = some (.iaload, 1) by decide +kernel)
set_option maxRecDepth 20000 in
theorem i218_1128f : ex_ X d 218 1128 [v0, v1, v2, v3] [.int i, .float 1, w0, w1, w2] h Q = (mx_in i X.1 = true ∧ ex_ X d 218 1129 [v0, v1, v2, v3] [.int (X.2 i.toNatClampNeg), w0, w1, w2] h Q) := R_ialdx (show mx_at 218 1128 = some (.iaload, 1) by decide +kernel) rfl
set_option maxRecDepth 20000 in
theorem i218_1129 (hc : co_ h a = some 11) : ex_ X (d + 1) 218 1129 [v0, v1, v2, v3] [.int x2, .int x1, .int x0, .ref a] h Q = ev_ X d 97 [.ref a, .int x0, .int x1, .int x2] h (fun r h' => ex_ X (d + 1) 218 1132 [v0, v1, v2, v3] (r.toList ++ []) h' Q) := R_vir (show mx_at 218 1129 = some (.invokevirtual 129, 3) by decide +kernel) (mx_clk ow218 cc21_129) (Nat.le_of_ble_eq_true rfl) rfl rfl hc rfl (Nat.le_of_ble_eq_true rfl) (Nat.le_of_ble_eq_true rfl) (by rw [ml97]; exact Nat.le_of_ble_eq_true rfl)
set_option maxRecDepth 20000 in
theorem i218_1132 : ex_ X d 218 1132 [v0, v1, .ref a, v3] [w0] h Q = ex_ X d 218 1133 [v0, v1, .ref a, v3] [.ref a, w0] h Q := ex_nx (show mx_at 218 1132 = some (.aload_n 2, 1) by decide +kernel) rfl
set_option maxRecDepth 20000 in
theorem i218_1132f0 : ex_ X d 218 1132 [v0, v1, .float 1, v3] [w0] h Q = ex_ X d 218 1133 [v0, v1, .float 1, v3] [.float 1, w0] h Q := ex_nx (show mx_at 218 1132 = some (.aload_n 2, 1) by decide +kernel) rfl
set_option maxRecDepth 20000 in
theorem i218_1133 : ex_ X d 218 1133 [.ref a, v1, v2, v3] [w0, w1] h Q = ex_ X d 218 1134 [.ref a, v1, v2, v3] [.ref a, w0, w1] h Q := ex_nx (show mx_at 218 1133 = some (.aload_n 0, 1) by decide +kernel) rfl
set_option maxRecDepth 20000 in
theorem i218_1133f0 : ex_ X d 218 1133 [.float 1, v1, v2, v3] [w0, w1] h Q = ex_ X d 218 1134 [.float 1, v1, v2, v3] [.float 1, w0, w1] h Q := ex_nx (show mx_at 218 1133 = some (.aload_n 0, 1) by decide +kernel) rfl
set_option maxRecDepth 20000 in
theorem i218_1134 : ex_ X d 218 1134 [v0, v1, v2, .int x] [w0, w1, w2] h Q = ex_ X d 218 1135 [v0, v1, v2, .int x] [.int x, w0, w1, w2] h Q := ex_nx (show mx_at 218 1134 = some (.iload_n 3, 1) by decide +kernel) rfl
set_option maxRecDepth 20000 in
theorem i218_1135 : ex_ X d 218 1135 [v0, v1, v2, v3] [w0, w1, w2, w3] h Q = ex_ X d 218 1136 [v0, v1, v2, v3] [.int 1, w0, w1, w2, w3] h Q := R_iconst (show mx_at 218 1135 = some (.iconst 1, 1) by decide +kernel) (by decide)
set_option maxRecDepth 20000 in
theorem i218_1136 : ex_ X d 218 1136 [v0, v1, v2, v3] [.int y, .int x, w0, w1, w2] h Q = ex_ X d 218 1137 [v0, v1, v2, v3] [.int (x + y), w0, w1, w2] h Q := ex_nx (show mx_at 218 1136 = some (.iadd, 1) by decide +kernel) rfl
set_option maxRecDepth 20000 in
theorem i218_1137 : ex_ X d 218 1137 [v0, v1, v2, v3] [.int i, .ref a, w0, w1] h Q = (ik_ h a i = true ∧ ex_ X d 218 1138 [v0, v1, v2, v3] [.int (ia_ h a i), w0, w1] h Q) := R_iald (show mx_at 218 1137 = some (.iaload, 1) by decide +kernel)
set_option maxRecDepth 20000 in
theorem i218_1137f : ex_ X d 218 1137 [v0, v1, v2, v3] [.int i, .float 1, w0, w1] h Q = (mx_in i X.1 = true ∧ ex_ X d 218 1138 [v0, v1, v2, v3] [.int (X.2 i.toNatClampNeg), w0, w1] h Q) := R_ialdx (show mx_at 218 1137 = some (.iaload, 1) by decide +kernel) rfl
set_option maxRecDepth 20000 in
theorem i218_1138 : ex_ X d 218 1138 [.ref a, v1, v2, v3] [w0, w1, w2] h Q = ex_ X d 218 1139 [.ref a, v1, v2, v3] [.ref a, w0, w1, w2] h Q := ex_nx (show mx_at 218 1138 = some (.aload_n 0, 1) by decide +kernel) rfl
set_option maxRecDepth 20000 in
theorem i218_1138f0 : ex_ X d 218 1138 [.float 1, v1, v2, v3] [w0, w1, w2] h Q = ex_ X d 218 1139 [.float 1, v1, v2, v3] [.float 1, w0, w1, w2] h Q := ex_nx (show mx_at 218 1138 = some (.aload_n 0, 1) by decide +kernel) rfl
set_option maxRecDepth 20000 in
theorem i218_1139 : ex_ X d 218 1139 [v0, v1, v2, .int x] [w0, w1, w2, w3] h Q = ex_ X d 218 1140 [v0, v1, v2, .int x] [.int x, w0, w1, w2, w3] h Q := ex_nx (show mx_at 218 1139 = some (.iload_n 3, 1) by decide +kernel) rfl
set_option maxRecDepth 20000 in
theorem i218_1140 : ex_ X d 218 1140 [v0, v1, v2, v3] [w0, w1, w2, w3, w4] h Q = ex_ X d 218 1141 [v0, v1, v2, v3] [.int 2, w0, w1, w2, w3, w4] h Q := R_iconst (show mx_at 218 1140 = some (.iconst 2, 1) by decide +kernel) (by decide)
set_option maxRecDepth 20000 in
theorem i218_1141 : ex_ X d 218 1141 [v0, v1, v2, v3] [.int y, .int x, w0, w1, w2, w3] h Q = ex_ X d 218 1142 [v0, v1, v2, v3] [.int (x + y), w0, w1, w2, w3] h Q := ex_nx (show mx_at 218 1141 = some (.iadd, 1) by decide +kernel) rfl
set_option maxRecDepth 20000 in
theorem i218_1142 : ex_ X d 218 1142 [v0, v1, v2, v3] [.int i, .ref a, w0, w1, w2] h Q = (ik_ h a i = true ∧ ex_ X d 218 1143 [v0, v1, v2, v3] [.int (ia_ h a i), w0, w1, w2] h Q) := R_iald (show mx_at 218 1142 = some (.iaload, 1) by decide +kernel)
set_option maxRecDepth 20000 in
theorem i218_1142f : ex_ X d 218 1142 [v0, v1, v2, v3] [.int i, .float 1, w0, w1, w2] h Q = (mx_in i X.1 = true ∧ ex_ X d 218 1143 [v0, v1, v2, v3] [.int (X.2 i.toNatClampNeg), w0, w1, w2] h Q) := R_ialdx (show mx_at 218 1142 = some (.iaload, 1) by decide +kernel) rfl
set_option maxRecDepth 20000 in
theorem i218_1143 : ex_ X d 218 1143 [.ref a, v1, v2, v3] [w0, w1, w2, w3] h Q = ex_ X d 218 1144 [.ref a, v1, v2, v3] [.ref a, w0, w1, w2, w3] h Q := ex_nx (show mx_at 218 1143 = some (.aload_n 0, 1) by decide +kernel) rfl
set_option maxRecDepth 20000 in
theorem i218_1143f0 : ex_ X d 218 1143 [.float 1, v1, v2, v3] [w0, w1, w2, w3] h Q = ex_ X d 218 1144 [.float 1, v1, v2, v3] [.float 1, w0, w1, w2, w3] h Q := ex_nx (show mx_at 218 1143 = some (.aload_n 0, 1) by decide +kernel) rfl
set_option maxRecDepth 20000 in
theorem i218_1144 : ex_ X d 218 1144 [v0, v1, v2, .int x] [w0, w1, w2, w3, w4] h Q = ex_ X d 218 1145 [v0, v1, v2, .int x] [.int x, w0, w1, w2, w3, w4] h Q := ex_nx (show mx_at 218 1144 = some (.iload_n 3, 1) by decide +kernel) rfl
set_option maxRecDepth 20000 in
theorem i218_1145 : ex_ X d 218 1145 [v0, v1, v2, v3] [w0, w1, w2, w3, w4, w5] h Q = ex_ X d 218 1146 [v0, v1, v2, v3] [.int 3, w0, w1, w2, w3, w4, w5] h Q := R_iconst (show mx_at 218 1145 = some (.iconst 3, 1) by decide +kernel) (by decide)
set_option maxRecDepth 20000 in
theorem i218_1146 : ex_ X d 218 1146 [v0, v1, v2, v3] [.int y, .int x, w0, w1, w2, w3, w4] h Q = ex_ X d 218 1147 [v0, v1, v2, v3] [.int (x + y), w0, w1, w2, w3, w4] h Q := ex_nx (show mx_at 218 1146 = some (.iadd, 1) by decide +kernel) rfl
set_option maxRecDepth 20000 in
theorem i218_1147 : ex_ X d 218 1147 [v0, v1, v2, v3] [.int i, .ref a, w0, w1, w2, w3] h Q = (ik_ h a i = true ∧ ex_ X d 218 1148 [v0, v1, v2, v3] [.int (ia_ h a i), w0, w1, w2, w3] h Q) := R_iald (show mx_at 218 1147 = some (.iaload, 1) by decide +kernel)
set_option maxRecDepth 20000 in
theorem i218_1147f : ex_ X d 218 1147 [v0, v1, v2, v3] [.int i, .float 1, w0, w1, w2, w3] h Q = (mx_in i X.1 = true ∧ ex_ X d 218 1148 [v0, v1, v2, v3] [.int (X.2 i.toNatClampNeg), w0, w1, w2, w3] h Q) := R_ialdx (show mx_at 218 1147 = some (.iaload, 1) by decide +kernel) rfl
set_option maxRecDepth 20000 in
theorem i218_1148 (hc : co_ h a = some 12) : ex_ X (d + 1) 218 1148 [v0, v1, v2, v3] [.int x2, .int x1, .int x0, .ref a, w0] h Q = ev_ X d 199 [.ref a, .int x0, .int x1, .int x2] h (fun r h' => ex_ X (d + 1) 218 1151 [v0, v1, v2, v3] (r.toList ++ [w0]) h' Q) := R_vir (show mx_at 218 1148 = some (.invokevirtual 132, 3) by decide +kernel) (mx_clk ow218 cc21_132) (Nat.le_of_ble_eq_true rfl) rfl rfl hc rfl (Nat.le_of_ble_eq_true rfl) (Nat.le_of_ble_eq_true rfl) (by rw [ml199]; exact Nat.le_of_ble_eq_true rfl)
set_option maxRecDepth 20000 in
theorem i218_1151 : ex_ X d 218 1151 [v0, v1, v2, v3] [.int y, .int x] h Q = if x = y then ex_ X d 218 1380 [v0, v1, v2, v3] [] h Q else ex_ X d 218 1154 [v0, v1, v2, v3] [] h Q := (R_br (show mx_at 218 1151 = some (.if_icmp .eq 229, 3) by decide +kernel) rfl rfl).trans mx_ite
set_option maxRecDepth 20000 in
theorem i218_1154 : ex_ X d 218 1154 [v0, v1, v2, v3] [] h Q = ex_ X d 218 1155 [v0, v1, v2, v3] [.int 0] h Q := R_iconst (show mx_at 218 1154 = some (.iconst 0, 1) by decide +kernel) (by decide)
set_option maxRecDepth 20000 in
theorem i218_1155 (hx : x = 0 ∨ x = 1) : ex_ X d 218 1155 [v0, v1, v2, v3] [.int x] h Q = Q (some (.int x)) h := ex_ret (show mx_at 218 1155 = some (.ireturn, 1) by decide +kernel) (mx_retZ hx rt218)
set_option maxRecDepth 20000 in
theorem i218_1156 : ex_ X d 218 1156 [v0, .ref a, v2, v3] [] h Q = ex_ X d 218 1157 [v0, .ref a, v2, v3] [.ref a] h Q := ex_nx (show mx_at 218 1156 = some (.aload_n 1, 1) by decide +kernel) rfl
set_option maxRecDepth 20000 in
theorem i218_1156f0 : ex_ X d 218 1156 [v0, .float 1, v2, v3] [] h Q = ex_ X d 218 1157 [v0, .float 1, v2, v3] [.float 1] h Q := ex_nx (show mx_at 218 1156 = some (.aload_n 1, 1) by decide +kernel) rfl
set_option maxRecDepth 20000 in
theorem i218_1157 : ex_ X d 218 1157 [.ref a, v1, v2, v3] [w0] h Q = ex_ X d 218 1158 [.ref a, v1, v2, v3] [.ref a, w0] h Q := ex_nx (show mx_at 218 1157 = some (.aload_n 0, 1) by decide +kernel) rfl
set_option maxRecDepth 20000 in
theorem i218_1157f0 : ex_ X d 218 1157 [.float 1, v1, v2, v3] [w0] h Q = ex_ X d 218 1158 [.float 1, v1, v2, v3] [.float 1, w0] h Q := ex_nx (show mx_at 218 1157 = some (.aload_n 0, 1) by decide +kernel) rfl
set_option maxRecDepth 20000 in
theorem i218_1158 : ex_ X d 218 1158 [v0, v1, v2, .int x] [w0, w1] h Q = ex_ X d 218 1159 [v0, v1, v2, .int x] [.int x, w0, w1] h Q := ex_nx (show mx_at 218 1158 = some (.iload_n 3, 1) by decide +kernel) rfl
set_option maxRecDepth 20000 in
theorem i218_1159 : ex_ X d 218 1159 [v0, v1, v2, v3] [w0, w1, w2] h Q = ex_ X d 218 1160 [v0, v1, v2, v3] [.int 1, w0, w1, w2] h Q := R_iconst (show mx_at 218 1159 = some (.iconst 1, 1) by decide +kernel) (by decide)
set_option maxRecDepth 20000 in
theorem i218_1160 : ex_ X d 218 1160 [v0, v1, v2, v3] [.int y, .int x, w0, w1] h Q = ex_ X d 218 1161 [v0, v1, v2, v3] [.int (x + y), w0, w1] h Q := ex_nx (show mx_at 218 1160 = some (.iadd, 1) by decide +kernel) rfl
set_option maxRecDepth 20000 in
theorem i218_1161 : ex_ X d 218 1161 [v0, v1, v2, v3] [.int i, .ref a, w0] h Q = (ik_ h a i = true ∧ ex_ X d 218 1162 [v0, v1, v2, v3] [.int (ia_ h a i), w0] h Q) := R_iald (show mx_at 218 1161 = some (.iaload, 1) by decide +kernel)
set_option maxRecDepth 20000 in
theorem i218_1161f : ex_ X d 218 1161 [v0, v1, v2, v3] [.int i, .float 1, w0] h Q = (mx_in i X.1 = true ∧ ex_ X d 218 1162 [v0, v1, v2, v3] [.int (X.2 i.toNatClampNeg), w0] h Q) := R_ialdx (show mx_at 218 1161 = some (.iaload, 1) by decide +kernel) rfl
set_option maxRecDepth 20000 in
theorem i218_1162 : ex_ X d 218 1162 [.ref a, v1, v2, v3] [w0, w1] h Q = ex_ X d 218 1163 [.ref a, v1, v2, v3] [.ref a, w0, w1] h Q := ex_nx (show mx_at 218 1162 = some (.aload_n 0, 1) by decide +kernel) rfl
set_option maxRecDepth 20000 in
theorem i218_1162f0 : ex_ X d 218 1162 [.float 1, v1, v2, v3] [w0, w1] h Q = ex_ X d 218 1163 [.float 1, v1, v2, v3] [.float 1, w0, w1] h Q := ex_nx (show mx_at 218 1162 = some (.aload_n 0, 1) by decide +kernel) rfl
set_option maxRecDepth 20000 in
theorem i218_1163 : ex_ X d 218 1163 [v0, v1, v2, .int x] [w0, w1, w2] h Q = ex_ X d 218 1164 [v0, v1, v2, .int x] [.int x, w0, w1, w2] h Q := ex_nx (show mx_at 218 1163 = some (.iload_n 3, 1) by decide +kernel) rfl
set_option maxRecDepth 20000 in
theorem i218_1164 : ex_ X d 218 1164 [v0, v1, v2, v3] [w0, w1, w2, w3] h Q = ex_ X d 218 1165 [v0, v1, v2, v3] [.int 2, w0, w1, w2, w3] h Q := R_iconst (show mx_at 218 1164 = some (.iconst 2, 1) by decide +kernel) (by decide)
set_option maxRecDepth 20000 in
theorem i218_1165 : ex_ X d 218 1165 [v0, v1, v2, v3] [.int y, .int x, w0, w1, w2] h Q = ex_ X d 218 1166 [v0, v1, v2, v3] [.int (x + y), w0, w1, w2] h Q := ex_nx (show mx_at 218 1165 = some (.iadd, 1) by decide +kernel) rfl
set_option maxRecDepth 20000 in
theorem i218_1166 : ex_ X d 218 1166 [v0, v1, v2, v3] [.int i, .ref a, w0, w1] h Q = (ik_ h a i = true ∧ ex_ X d 218 1167 [v0, v1, v2, v3] [.int (ia_ h a i), w0, w1] h Q) := R_iald (show mx_at 218 1166 = some (.iaload, 1) by decide +kernel)
set_option maxRecDepth 20000 in
theorem i218_1166f : ex_ X d 218 1166 [v0, v1, v2, v3] [.int i, .float 1, w0, w1] h Q = (mx_in i X.1 = true ∧ ex_ X d 218 1167 [v0, v1, v2, v3] [.int (X.2 i.toNatClampNeg), w0, w1] h Q) := R_ialdx (show mx_at 218 1166 = some (.iaload, 1) by decide +kernel) rfl
set_option maxRecDepth 20000 in
theorem i218_1167 : ex_ X d 218 1167 [.ref a, v1, v2, v3] [w0, w1, w2] h Q = ex_ X d 218 1168 [.ref a, v1, v2, v3] [.ref a, w0, w1, w2] h Q := ex_nx (show mx_at 218 1167 = some (.aload_n 0, 1) by decide +kernel) rfl
set_option maxRecDepth 20000 in
theorem i218_1167f0 : ex_ X d 218 1167 [.float 1, v1, v2, v3] [w0, w1, w2] h Q = ex_ X d 218 1168 [.float 1, v1, v2, v3] [.float 1, w0, w1, w2] h Q := ex_nx (show mx_at 218 1167 = some (.aload_n 0, 1) by decide +kernel) rfl
set_option maxRecDepth 20000 in
theorem i218_1168 : ex_ X d 218 1168 [v0, v1, v2, .int x] [w0, w1, w2, w3] h Q = ex_ X d 218 1169 [v0, v1, v2, .int x] [.int x, w0, w1, w2, w3] h Q := ex_nx (show mx_at 218 1168 = some (.iload_n 3, 1) by decide +kernel) rfl
set_option maxRecDepth 20000 in
theorem i218_1169 : ex_ X d 218 1169 [v0, v1, v2, v3] [w0, w1, w2, w3, w4] h Q = ex_ X d 218 1170 [v0, v1, v2, v3] [.int 3, w0, w1, w2, w3, w4] h Q := R_iconst (show mx_at 218 1169 = some (.iconst 3, 1) by decide +kernel) (by decide)
set_option maxRecDepth 20000 in
theorem i218_1170 : ex_ X d 218 1170 [v0, v1, v2, v3] [.int y, .int x, w0, w1, w2, w3] h Q = ex_ X d 218 1171 [v0, v1, v2, v3] [.int (x + y), w0, w1, w2, w3] h Q := ex_nx (show mx_at 218 1170 = some (.iadd, 1) by decide +kernel) rfl
set_option maxRecDepth 20000 in
theorem i218_1171 : ex_ X d 218 1171 [v0, v1, v2, v3] [.int i, .ref a, w0, w1, w2] h Q = (ik_ h a i = true ∧ ex_ X d 218 1172 [v0, v1, v2, v3] [.int (ia_ h a i), w0, w1, w2] h Q) := R_iald (show mx_at 218 1171 = some (.iaload, 1) by decide +kernel)
set_option maxRecDepth 20000 in
theorem i218_1171f : ex_ X d 218 1171 [v0, v1, v2, v3] [.int i, .float 1, w0, w1, w2] h Q = (mx_in i X.1 = true ∧ ex_ X d 218 1172 [v0, v1, v2, v3] [.int (X.2 i.toNatClampNeg), w0, w1, w2] h Q) := R_ialdx (show mx_at 218 1171 = some (.iaload, 1) by decide +kernel) rfl
set_option maxRecDepth 20000 in
theorem i218_1172 (hc : co_ h a = some 11) : ex_ X (d + 1) 218 1172 [v0, v1, v2, v3] [.int x2, .int x1, .int x0, .ref a] h Q = ev_ X d 98 [.ref a, .int x0, .int x1, .int x2] h (fun r h' => ex_ X (d + 1) 218 1175 [v0, v1, v2, v3] (r.toList ++ []) h' Q) := R_vir (show mx_at 218 1172 = some (.invokevirtual 133, 3) by decide +kernel) (mx_clk ow218 cc21_133) (Nat.le_of_ble_eq_true rfl) rfl rfl hc rfl (Nat.le_of_ble_eq_true rfl) (Nat.le_of_ble_eq_true rfl) (by rw [ml98]; exact Nat.le_of_ble_eq_true rfl)
set_option maxRecDepth 20000 in
theorem i218_1175 : ex_ X d 218 1175 [v0, v1, .ref a, v3] [w0] h Q = ex_ X d 218 1176 [v0, v1, .ref a, v3] [.ref a, w0] h Q := ex_nx (show mx_at 218 1175 = some (.aload_n 2, 1) by decide +kernel) rfl
set_option maxRecDepth 20000 in
theorem i218_1175f0 : ex_ X d 218 1175 [v0, v1, .float 1, v3] [w0] h Q = ex_ X d 218 1176 [v0, v1, .float 1, v3] [.float 1, w0] h Q := ex_nx (show mx_at 218 1175 = some (.aload_n 2, 1) by decide +kernel) rfl
set_option maxRecDepth 20000 in
theorem i218_1176 : ex_ X d 218 1176 [.ref a, v1, v2, v3] [w0, w1] h Q = ex_ X d 218 1177 [.ref a, v1, v2, v3] [.ref a, w0, w1] h Q := ex_nx (show mx_at 218 1176 = some (.aload_n 0, 1) by decide +kernel) rfl
set_option maxRecDepth 20000 in
theorem i218_1176f0 : ex_ X d 218 1176 [.float 1, v1, v2, v3] [w0, w1] h Q = ex_ X d 218 1177 [.float 1, v1, v2, v3] [.float 1, w0, w1] h Q := ex_nx (show mx_at 218 1176 = some (.aload_n 0, 1) by decide +kernel) rfl
set_option maxRecDepth 20000 in
theorem i218_1177 : ex_ X d 218 1177 [v0, v1, v2, .int x] [w0, w1, w2] h Q = ex_ X d 218 1178 [v0, v1, v2, .int x] [.int x, w0, w1, w2] h Q := ex_nx (show mx_at 218 1177 = some (.iload_n 3, 1) by decide +kernel) rfl
set_option maxRecDepth 20000 in
theorem i218_1178 : ex_ X d 218 1178 [v0, v1, v2, v3] [w0, w1, w2, w3] h Q = ex_ X d 218 1179 [v0, v1, v2, v3] [.int 1, w0, w1, w2, w3] h Q := R_iconst (show mx_at 218 1178 = some (.iconst 1, 1) by decide +kernel) (by decide)
set_option maxRecDepth 20000 in
theorem i218_1179 : ex_ X d 218 1179 [v0, v1, v2, v3] [.int y, .int x, w0, w1, w2] h Q = ex_ X d 218 1180 [v0, v1, v2, v3] [.int (x + y), w0, w1, w2] h Q := ex_nx (show mx_at 218 1179 = some (.iadd, 1) by decide +kernel) rfl
set_option maxRecDepth 20000 in
theorem i218_1180 : ex_ X d 218 1180 [v0, v1, v2, v3] [.int i, .ref a, w0, w1] h Q = (ik_ h a i = true ∧ ex_ X d 218 1181 [v0, v1, v2, v3] [.int (ia_ h a i), w0, w1] h Q) := R_iald (show mx_at 218 1180 = some (.iaload, 1) by decide +kernel)
set_option maxRecDepth 20000 in
theorem i218_1180f : ex_ X d 218 1180 [v0, v1, v2, v3] [.int i, .float 1, w0, w1] h Q = (mx_in i X.1 = true ∧ ex_ X d 218 1181 [v0, v1, v2, v3] [.int (X.2 i.toNatClampNeg), w0, w1] h Q) := R_ialdx (show mx_at 218 1180 = some (.iaload, 1) by decide +kernel) rfl
set_option maxRecDepth 20000 in
theorem i218_1181 : ex_ X d 218 1181 [.ref a, v1, v2, v3] [w0, w1, w2] h Q = ex_ X d 218 1182 [.ref a, v1, v2, v3] [.ref a, w0, w1, w2] h Q := ex_nx (show mx_at 218 1181 = some (.aload_n 0, 1) by decide +kernel) rfl
set_option maxRecDepth 20000 in
theorem i218_1181f0 : ex_ X d 218 1181 [.float 1, v1, v2, v3] [w0, w1, w2] h Q = ex_ X d 218 1182 [.float 1, v1, v2, v3] [.float 1, w0, w1, w2] h Q := ex_nx (show mx_at 218 1181 = some (.aload_n 0, 1) by decide +kernel) rfl
set_option maxRecDepth 20000 in
theorem i218_1182 : ex_ X d 218 1182 [v0, v1, v2, .int x] [w0, w1, w2, w3] h Q = ex_ X d 218 1183 [v0, v1, v2, .int x] [.int x, w0, w1, w2, w3] h Q := ex_nx (show mx_at 218 1182 = some (.iload_n 3, 1) by decide +kernel) rfl
set_option maxRecDepth 20000 in
theorem i218_1183 : ex_ X d 218 1183 [v0, v1, v2, v3] [w0, w1, w2, w3, w4] h Q = ex_ X d 218 1184 [v0, v1, v2, v3] [.int 2, w0, w1, w2, w3, w4] h Q := R_iconst (show mx_at 218 1183 = some (.iconst 2, 1) by decide +kernel) (by decide)
set_option maxRecDepth 20000 in
theorem i218_1184 : ex_ X d 218 1184 [v0, v1, v2, v3] [.int y, .int x, w0, w1, w2, w3] h Q = ex_ X d 218 1185 [v0, v1, v2, v3] [.int (x + y), w0, w1, w2, w3] h Q := ex_nx (show mx_at 218 1184 = some (.iadd, 1) by decide +kernel) rfl
set_option maxRecDepth 20000 in
theorem i218_1185 : ex_ X d 218 1185 [v0, v1, v2, v3] [.int i, .ref a, w0, w1, w2] h Q = (ik_ h a i = true ∧ ex_ X d 218 1186 [v0, v1, v2, v3] [.int (ia_ h a i), w0, w1, w2] h Q) := R_iald (show mx_at 218 1185 = some (.iaload, 1) by decide +kernel)
set_option maxRecDepth 20000 in
theorem i218_1185f : ex_ X d 218 1185 [v0, v1, v2, v3] [.int i, .float 1, w0, w1, w2] h Q = (mx_in i X.1 = true ∧ ex_ X d 218 1186 [v0, v1, v2, v3] [.int (X.2 i.toNatClampNeg), w0, w1, w2] h Q) := R_ialdx (show mx_at 218 1185 = some (.iaload, 1) by decide +kernel) rfl
set_option maxRecDepth 20000 in
theorem i218_1186 : ex_ X d 218 1186 [.ref a, v1, v2, v3] [w0, w1, w2, w3] h Q = ex_ X d 218 1187 [.ref a, v1, v2, v3] [.ref a, w0, w1, w2, w3] h Q := ex_nx (show mx_at 218 1186 = some (.aload_n 0, 1) by decide +kernel) rfl
set_option maxRecDepth 20000 in
theorem i218_1186f0 : ex_ X d 218 1186 [.float 1, v1, v2, v3] [w0, w1, w2, w3] h Q = ex_ X d 218 1187 [.float 1, v1, v2, v3] [.float 1, w0, w1, w2, w3] h Q := ex_nx (show mx_at 218 1186 = some (.aload_n 0, 1) by decide +kernel) rfl
set_option maxRecDepth 20000 in
theorem i218_1187 : ex_ X d 218 1187 [v0, v1, v2, .int x] [w0, w1, w2, w3, w4] h Q = ex_ X d 218 1188 [v0, v1, v2, .int x] [.int x, w0, w1, w2, w3, w4] h Q := ex_nx (show mx_at 218 1187 = some (.iload_n 3, 1) by decide +kernel) rfl
set_option maxRecDepth 20000 in
theorem i218_1188 : ex_ X d 218 1188 [v0, v1, v2, v3] [w0, w1, w2, w3, w4, w5] h Q = ex_ X d 218 1189 [v0, v1, v2, v3] [.int 3, w0, w1, w2, w3, w4, w5] h Q := R_iconst (show mx_at 218 1188 = some (.iconst 3, 1) by decide +kernel) (by decide)
set_option maxRecDepth 20000 in
theorem i218_1189 : ex_ X d 218 1189 [v0, v1, v2, v3] [.int y, .int x, w0, w1, w2, w3, w4] h Q = ex_ X d 218 1190 [v0, v1, v2, v3] [.int (x + y), w0, w1, w2, w3, w4] h Q := ex_nx (show mx_at 218 1189 = some (.iadd, 1) by decide +kernel) rfl
set_option maxRecDepth 20000 in
theorem i218_1190 : ex_ X d 218 1190 [v0, v1, v2, v3] [.int i, .ref a, w0, w1, w2, w3] h Q = (ik_ h a i = true ∧ ex_ X d 218 1191 [v0, v1, v2, v3] [.int (ia_ h a i), w0, w1, w2, w3] h Q) := R_iald (show mx_at 218 1190 = some (.iaload, 1) by decide +kernel)
set_option maxRecDepth 20000 in
theorem i218_1190f : ex_ X d 218 1190 [v0, v1, v2, v3] [.int i, .float 1, w0, w1, w2, w3] h Q = (mx_in i X.1 = true ∧ ex_ X d 218 1191 [v0, v1, v2, v3] [.int (X.2 i.toNatClampNeg), w0, w1, w2, w3] h Q) := R_ialdx (show mx_at 218 1190 = some (.iaload, 1) by decide +kernel) rfl
set_option maxRecDepth 20000 in
theorem i218_1191 (hc : co_ h a = some 12) : ex_ X (d + 1) 218 1191 [v0, v1, v2, v3] [.int x2, .int x1, .int x0, .ref a, w0] h Q = ev_ X d 200 [.ref a, .int x0, .int x1, .int x2] h (fun r h' => ex_ X (d + 1) 218 1194 [v0, v1, v2, v3] (r.toList ++ [w0]) h' Q) := R_vir (show mx_at 218 1191 = some (.invokevirtual 136, 3) by decide +kernel) (mx_clk ow218 cc21_136) (Nat.le_of_ble_eq_true rfl) rfl rfl hc rfl (Nat.le_of_ble_eq_true rfl) (Nat.le_of_ble_eq_true rfl) (by rw [ml200]; exact Nat.le_of_ble_eq_true rfl)
set_option maxRecDepth 20000 in
theorem i218_1194 : ex_ X d 218 1194 [v0, v1, v2, v3] [.int y, .int x] h Q = if x = y then ex_ X d 218 1380 [v0, v1, v2, v3] [] h Q else ex_ X d 218 1197 [v0, v1, v2, v3] [] h Q := (R_br (show mx_at 218 1194 = some (.if_icmp .eq 186, 3) by decide +kernel) rfl rfl).trans mx_ite
set_option maxRecDepth 20000 in
theorem i218_1197 : ex_ X d 218 1197 [v0, v1, v2, v3] [] h Q = ex_ X d 218 1198 [v0, v1, v2, v3] [.int 0] h Q := R_iconst (show mx_at 218 1197 = some (.iconst 0, 1) by decide +kernel) (by decide)
set_option maxRecDepth 20000 in
theorem i218_1198 (hx : x = 0 ∨ x = 1) : ex_ X d 218 1198 [v0, v1, v2, v3] [.int x] h Q = Q (some (.int x)) h := ex_ret (show mx_at 218 1198 = some (.ireturn, 1) by decide +kernel) (mx_retZ hx rt218)
set_option maxRecDepth 20000 in
theorem i218_1199 : ex_ X d 218 1199 [v0, .ref a, v2, v3] [] h Q = ex_ X d 218 1200 [v0, .ref a, v2, v3] [.ref a] h Q := ex_nx (show mx_at 218 1199 = some (.aload_n 1, 1) by decide +kernel) rfl
set_option maxRecDepth 20000 in
theorem i218_1199f0 : ex_ X d 218 1199 [v0, .float 1, v2, v3] [] h Q = ex_ X d 218 1200 [v0, .float 1, v2, v3] [.float 1] h Q := ex_nx (show mx_at 218 1199 = some (.aload_n 1, 1) by decide +kernel) rfl
set_option maxRecDepth 20000 in
theorem i218_1200 : ex_ X d 218 1200 [.ref a, v1, v2, v3] [w0] h Q = ex_ X d 218 1201 [.ref a, v1, v2, v3] [.ref a, w0] h Q := ex_nx (show mx_at 218 1200 = some (.aload_n 0, 1) by decide +kernel) rfl
set_option maxRecDepth 20000 in
theorem i218_1200f0 : ex_ X d 218 1200 [.float 1, v1, v2, v3] [w0] h Q = ex_ X d 218 1201 [.float 1, v1, v2, v3] [.float 1, w0] h Q := ex_nx (show mx_at 218 1200 = some (.aload_n 0, 1) by decide +kernel) rfl
set_option maxRecDepth 20000 in
theorem i218_1201 : ex_ X d 218 1201 [v0, v1, v2, .int x] [w0, w1] h Q = ex_ X d 218 1202 [v0, v1, v2, .int x] [.int x, w0, w1] h Q := ex_nx (show mx_at 218 1201 = some (.iload_n 3, 1) by decide +kernel) rfl
set_option maxRecDepth 20000 in
theorem i218_1202 : ex_ X d 218 1202 [v0, v1, v2, v3] [w0, w1, w2] h Q = ex_ X d 218 1203 [v0, v1, v2, v3] [.int 1, w0, w1, w2] h Q := R_iconst (show mx_at 218 1202 = some (.iconst 1, 1) by decide +kernel) (by decide)
set_option maxRecDepth 20000 in
theorem i218_1203 : ex_ X d 218 1203 [v0, v1, v2, v3] [.int y, .int x, w0, w1] h Q = ex_ X d 218 1204 [v0, v1, v2, v3] [.int (x + y), w0, w1] h Q := ex_nx (show mx_at 218 1203 = some (.iadd, 1) by decide +kernel) rfl
set_option maxRecDepth 20000 in
theorem i218_1204 : ex_ X d 218 1204 [v0, v1, v2, v3] [.int i, .ref a, w0] h Q = (ik_ h a i = true ∧ ex_ X d 218 1205 [v0, v1, v2, v3] [.int (ia_ h a i), w0] h Q) := R_iald (show mx_at 218 1204 = some (.iaload, 1) by decide +kernel)
set_option maxRecDepth 20000 in
theorem i218_1204f : ex_ X d 218 1204 [v0, v1, v2, v3] [.int i, .float 1, w0] h Q = (mx_in i X.1 = true ∧ ex_ X d 218 1205 [v0, v1, v2, v3] [.int (X.2 i.toNatClampNeg), w0] h Q) := R_ialdx (show mx_at 218 1204 = some (.iaload, 1) by decide +kernel) rfl
set_option maxRecDepth 20000 in
theorem i218_1205 : ex_ X d 218 1205 [.ref a, v1, v2, v3] [w0, w1] h Q = ex_ X d 218 1206 [.ref a, v1, v2, v3] [.ref a, w0, w1] h Q := ex_nx (show mx_at 218 1205 = some (.aload_n 0, 1) by decide +kernel) rfl
set_option maxRecDepth 20000 in
theorem i218_1205f0 : ex_ X d 218 1205 [.float 1, v1, v2, v3] [w0, w1] h Q = ex_ X d 218 1206 [.float 1, v1, v2, v3] [.float 1, w0, w1] h Q := ex_nx (show mx_at 218 1205 = some (.aload_n 0, 1) by decide +kernel) rfl
set_option maxRecDepth 20000 in
theorem i218_1206 : ex_ X d 218 1206 [v0, v1, v2, .int x] [w0, w1, w2] h Q = ex_ X d 218 1207 [v0, v1, v2, .int x] [.int x, w0, w1, w2] h Q := ex_nx (show mx_at 218 1206 = some (.iload_n 3, 1) by decide +kernel) rfl
set_option maxRecDepth 20000 in
theorem i218_1207 : ex_ X d 218 1207 [v0, v1, v2, v3] [w0, w1, w2, w3] h Q = ex_ X d 218 1208 [v0, v1, v2, v3] [.int 2, w0, w1, w2, w3] h Q := R_iconst (show mx_at 218 1207 = some (.iconst 2, 1) by decide +kernel) (by decide)
set_option maxRecDepth 20000 in
theorem i218_1208 : ex_ X d 218 1208 [v0, v1, v2, v3] [.int y, .int x, w0, w1, w2] h Q = ex_ X d 218 1209 [v0, v1, v2, v3] [.int (x + y), w0, w1, w2] h Q := ex_nx (show mx_at 218 1208 = some (.iadd, 1) by decide +kernel) rfl
set_option maxRecDepth 20000 in
theorem i218_1209 : ex_ X d 218 1209 [v0, v1, v2, v3] [.int i, .ref a, w0, w1] h Q = (ik_ h a i = true ∧ ex_ X d 218 1210 [v0, v1, v2, v3] [.int (ia_ h a i), w0, w1] h Q) := R_iald (show mx_at 218 1209 = some (.iaload, 1) by decide +kernel)
set_option maxRecDepth 20000 in
theorem i218_1209f : ex_ X d 218 1209 [v0, v1, v2, v3] [.int i, .float 1, w0, w1] h Q = (mx_in i X.1 = true ∧ ex_ X d 218 1210 [v0, v1, v2, v3] [.int (X.2 i.toNatClampNeg), w0, w1] h Q) := R_ialdx (show mx_at 218 1209 = some (.iaload, 1) by decide +kernel) rfl
set_option maxRecDepth 20000 in
theorem i218_1210 : ex_ X d 218 1210 [.ref a, v1, v2, v3] [w0, w1, w2] h Q = ex_ X d 218 1211 [.ref a, v1, v2, v3] [.ref a, w0, w1, w2] h Q := ex_nx (show mx_at 218 1210 = some (.aload_n 0, 1) by decide +kernel) rfl
set_option maxRecDepth 20000 in
theorem i218_1210f0 : ex_ X d 218 1210 [.float 1, v1, v2, v3] [w0, w1, w2] h Q = ex_ X d 218 1211 [.float 1, v1, v2, v3] [.float 1, w0, w1, w2] h Q := ex_nx (show mx_at 218 1210 = some (.aload_n 0, 1) by decide +kernel) rfl
set_option maxRecDepth 20000 in
theorem i218_1211 : ex_ X d 218 1211 [v0, v1, v2, .int x] [w0, w1, w2, w3] h Q = ex_ X d 218 1212 [v0, v1, v2, .int x] [.int x, w0, w1, w2, w3] h Q := ex_nx (show mx_at 218 1211 = some (.iload_n 3, 1) by decide +kernel) rfl
set_option maxRecDepth 20000 in
theorem i218_1212 : ex_ X d 218 1212 [v0, v1, v2, v3] [w0, w1, w2, w3, w4] h Q = ex_ X d 218 1213 [v0, v1, v2, v3] [.int 3, w0, w1, w2, w3, w4] h Q := R_iconst (show mx_at 218 1212 = some (.iconst 3, 1) by decide +kernel) (by decide)
set_option maxRecDepth 20000 in
theorem i218_1213 : ex_ X d 218 1213 [v0, v1, v2, v3] [.int y, .int x, w0, w1, w2, w3] h Q = ex_ X d 218 1214 [v0, v1, v2, v3] [.int (x + y), w0, w1, w2, w3] h Q := ex_nx (show mx_at 218 1213 = some (.iadd, 1) by decide +kernel) rfl
set_option maxRecDepth 20000 in
theorem i218_1214 : ex_ X d 218 1214 [v0, v1, v2, v3] [.int i, .ref a, w0, w1, w2] h Q = (ik_ h a i = true ∧ ex_ X d 218 1215 [v0, v1, v2, v3] [.int (ia_ h a i), w0, w1, w2] h Q) := R_iald (show mx_at 218 1214 = some (.iaload, 1) by decide +kernel)
set_option maxRecDepth 20000 in
theorem i218_1214f : ex_ X d 218 1214 [v0, v1, v2, v3] [.int i, .float 1, w0, w1, w2] h Q = (mx_in i X.1 = true ∧ ex_ X d 218 1215 [v0, v1, v2, v3] [.int (X.2 i.toNatClampNeg), w0, w1, w2] h Q) := R_ialdx (show mx_at 218 1214 = some (.iaload, 1) by decide +kernel) rfl
set_option maxRecDepth 20000 in
theorem i218_1215 : ex_ X d 218 1215 [.ref a, v1, v2, v3] [w0, w1, w2, w3] h Q = ex_ X d 218 1216 [.ref a, v1, v2, v3] [.ref a, w0, w1, w2, w3] h Q := ex_nx (show mx_at 218 1215 = some (.aload_n 0, 1) by decide +kernel) rfl
set_option maxRecDepth 20000 in
theorem i218_1215f0 : ex_ X d 218 1215 [.float 1, v1, v2, v3] [w0, w1, w2, w3] h Q = ex_ X d 218 1216 [.float 1, v1, v2, v3] [.float 1, w0, w1, w2, w3] h Q := ex_nx (show mx_at 218 1215 = some (.aload_n 0, 1) by decide +kernel) rfl
set_option maxRecDepth 20000 in
theorem i218_1216 : ex_ X d 218 1216 [v0, v1, v2, .int x] [w0, w1, w2, w3, w4] h Q = ex_ X d 218 1217 [v0, v1, v2, .int x] [.int x, w0, w1, w2, w3, w4] h Q := ex_nx (show mx_at 218 1216 = some (.iload_n 3, 1) by decide +kernel) rfl
set_option maxRecDepth 20000 in
theorem i218_1217 : ex_ X d 218 1217 [v0, v1, v2, v3] [w0, w1, w2, w3, w4, w5] h Q = ex_ X d 218 1218 [v0, v1, v2, v3] [.int 4, w0, w1, w2, w3, w4, w5] h Q := R_iconst (show mx_at 218 1217 = some (.iconst 4, 1) by decide +kernel) (by decide)
set_option maxRecDepth 20000 in
theorem i218_1218 : ex_ X d 218 1218 [v0, v1, v2, v3] [.int y, .int x, w0, w1, w2, w3, w4] h Q = ex_ X d 218 1219 [v0, v1, v2, v3] [.int (x + y), w0, w1, w2, w3, w4] h Q := ex_nx (show mx_at 218 1218 = some (.iadd, 1) by decide +kernel) rfl
set_option maxRecDepth 20000 in
theorem i218_1219 : ex_ X d 218 1219 [v0, v1, v2, v3] [.int i, .ref a, w0, w1, w2, w3] h Q = (ik_ h a i = true ∧ ex_ X d 218 1220 [v0, v1, v2, v3] [.int (ia_ h a i), w0, w1, w2, w3] h Q) := R_iald (show mx_at 218 1219 = some (.iaload, 1) by decide +kernel)
set_option maxRecDepth 20000 in
theorem i218_1219f : ex_ X d 218 1219 [v0, v1, v2, v3] [.int i, .float 1, w0, w1, w2, w3] h Q = (mx_in i X.1 = true ∧ ex_ X d 218 1220 [v0, v1, v2, v3] [.int (X.2 i.toNatClampNeg), w0, w1, w2, w3] h Q) := R_ialdx (show mx_at 218 1219 = some (.iaload, 1) by decide +kernel) rfl
set_option maxRecDepth 20000 in
theorem i218_1220 : ex_ X d 218 1220 [.ref a, v1, v2, v3] [w0, w1, w2, w3, w4] h Q = ex_ X d 218 1221 [.ref a, v1, v2, v3] [.ref a, w0, w1, w2, w3, w4] h Q := ex_nx (show mx_at 218 1220 = some (.aload_n 0, 1) by decide +kernel) rfl
set_option maxRecDepth 20000 in
theorem i218_1220f0 : ex_ X d 218 1220 [.float 1, v1, v2, v3] [w0, w1, w2, w3, w4] h Q = ex_ X d 218 1221 [.float 1, v1, v2, v3] [.float 1, w0, w1, w2, w3, w4] h Q := ex_nx (show mx_at 218 1220 = some (.aload_n 0, 1) by decide +kernel) rfl
set_option maxRecDepth 20000 in
theorem i218_1221 : ex_ X d 218 1221 [v0, v1, v2, .int x] [w0, w1, w2, w3, w4, w5] h Q = ex_ X d 218 1222 [v0, v1, v2, .int x] [.int x, w0, w1, w2, w3, w4, w5] h Q := ex_nx (show mx_at 218 1221 = some (.iload_n 3, 1) by decide +kernel) rfl
set_option maxRecDepth 20000 in
theorem i218_1222 : ex_ X d 218 1222 [v0, v1, v2, v3] [w0, w1, w2, w3, w4, w5, w6] h Q = ex_ X d 218 1223 [v0, v1, v2, v3] [.int 5, w0, w1, w2, w3, w4, w5, w6] h Q := R_iconst (show mx_at 218 1222 = some (.iconst 5, 1) by decide +kernel) (by decide)
set_option maxRecDepth 20000 in
theorem i218_1223 : ex_ X d 218 1223 [v0, v1, v2, v3] [.int y, .int x, w0, w1, w2, w3, w4, w5] h Q = ex_ X d 218 1224 [v0, v1, v2, v3] [.int (x + y), w0, w1, w2, w3, w4, w5] h Q := ex_nx (show mx_at 218 1223 = some (.iadd, 1) by decide +kernel) rfl
set_option maxRecDepth 20000 in
theorem i218_1224 : ex_ X d 218 1224 [v0, v1, v2, v3] [.int i, .ref a, w0, w1, w2, w3, w4] h Q = (ik_ h a i = true ∧ ex_ X d 218 1225 [v0, v1, v2, v3] [.int (ia_ h a i), w0, w1, w2, w3, w4] h Q) := R_iald (show mx_at 218 1224 = some (.iaload, 1) by decide +kernel)
set_option maxRecDepth 20000 in
theorem i218_1224f : ex_ X d 218 1224 [v0, v1, v2, v3] [.int i, .float 1, w0, w1, w2, w3, w4] h Q = (mx_in i X.1 = true ∧ ex_ X d 218 1225 [v0, v1, v2, v3] [.int (X.2 i.toNatClampNeg), w0, w1, w2, w3, w4] h Q) := R_ialdx (show mx_at 218 1224 = some (.iaload, 1) by decide +kernel) rfl
set_option maxRecDepth 20000 in
theorem i218_1225 (hc : co_ h a = some 11) : ex_ X (d + 1) 218 1225 [v0, v1, v2, v3] [.int x4, .int x3, .int x2, .int x1, .int x0, .ref a] h Q = ev_ X d 99 [.ref a, .int x0, .int x1, .int x2, .int x3, .int x4] h (fun r h' => ex_ X (d + 1) 218 1228 [v0, v1, v2, v3] (r.toList ++ []) h' Q) := R_vir (show mx_at 218 1225 = some (.invokevirtual 137, 3) by decide +kernel) (mx_clk ow218 cc21_137) (Nat.le_of_ble_eq_true rfl) rfl rfl hc rfl (Nat.le_of_ble_eq_true rfl) (Nat.le_of_ble_eq_true rfl) (by rw [ml99]; exact Nat.le_of_ble_eq_true rfl)
set_option maxRecDepth 20000 in
theorem i218_1228 : ex_ X d 218 1228 [v0, v1, .ref a, v3] [w0] h Q = ex_ X d 218 1229 [v0, v1, .ref a, v3] [.ref a, w0] h Q := ex_nx (show mx_at 218 1228 = some (.aload_n 2, 1) by decide +kernel) rfl
set_option maxRecDepth 20000 in
theorem i218_1228f0 : ex_ X d 218 1228 [v0, v1, .float 1, v3] [w0] h Q = ex_ X d 218 1229 [v0, v1, .float 1, v3] [.float 1, w0] h Q := ex_nx (show mx_at 218 1228 = some (.aload_n 2, 1) by decide +kernel) rfl
set_option maxRecDepth 20000 in
theorem i218_1229 : ex_ X d 218 1229 [.ref a, v1, v2, v3] [w0, w1] h Q = ex_ X d 218 1230 [.ref a, v1, v2, v3] [.ref a, w0, w1] h Q := ex_nx (show mx_at 218 1229 = some (.aload_n 0, 1) by decide +kernel) rfl
set_option maxRecDepth 20000 in
theorem i218_1229f0 : ex_ X d 218 1229 [.float 1, v1, v2, v3] [w0, w1] h Q = ex_ X d 218 1230 [.float 1, v1, v2, v3] [.float 1, w0, w1] h Q := ex_nx (show mx_at 218 1229 = some (.aload_n 0, 1) by decide +kernel) rfl
set_option maxRecDepth 20000 in
theorem i218_1230 : ex_ X d 218 1230 [v0, v1, v2, .int x] [w0, w1, w2] h Q = ex_ X d 218 1231 [v0, v1, v2, .int x] [.int x, w0, w1, w2] h Q := ex_nx (show mx_at 218 1230 = some (.iload_n 3, 1) by decide +kernel) rfl
set_option maxRecDepth 20000 in
theorem i218_1231 : ex_ X d 218 1231 [v0, v1, v2, v3] [w0, w1, w2, w3] h Q = ex_ X d 218 1232 [v0, v1, v2, v3] [.int 1, w0, w1, w2, w3] h Q := R_iconst (show mx_at 218 1231 = some (.iconst 1, 1) by decide +kernel) (by decide)
set_option maxRecDepth 20000 in
theorem i218_1232 : ex_ X d 218 1232 [v0, v1, v2, v3] [.int y, .int x, w0, w1, w2] h Q = ex_ X d 218 1233 [v0, v1, v2, v3] [.int (x + y), w0, w1, w2] h Q := ex_nx (show mx_at 218 1232 = some (.iadd, 1) by decide +kernel) rfl
set_option maxRecDepth 20000 in
theorem i218_1233 : ex_ X d 218 1233 [v0, v1, v2, v3] [.int i, .ref a, w0, w1] h Q = (ik_ h a i = true ∧ ex_ X d 218 1234 [v0, v1, v2, v3] [.int (ia_ h a i), w0, w1] h Q) := R_iald (show mx_at 218 1233 = some (.iaload, 1) by decide +kernel)
set_option maxRecDepth 20000 in
theorem i218_1233f : ex_ X d 218 1233 [v0, v1, v2, v3] [.int i, .float 1, w0, w1] h Q = (mx_in i X.1 = true ∧ ex_ X d 218 1234 [v0, v1, v2, v3] [.int (X.2 i.toNatClampNeg), w0, w1] h Q) := R_ialdx (show mx_at 218 1233 = some (.iaload, 1) by decide +kernel) rfl
set_option maxRecDepth 20000 in
theorem i218_1234 : ex_ X d 218 1234 [.ref a, v1, v2, v3] [w0, w1, w2] h Q = ex_ X d 218 1235 [.ref a, v1, v2, v3] [.ref a, w0, w1, w2] h Q := ex_nx (show mx_at 218 1234 = some (.aload_n 0, 1) by decide +kernel) rfl
set_option maxRecDepth 20000 in
theorem i218_1234f0 : ex_ X d 218 1234 [.float 1, v1, v2, v3] [w0, w1, w2] h Q = ex_ X d 218 1235 [.float 1, v1, v2, v3] [.float 1, w0, w1, w2] h Q := ex_nx (show mx_at 218 1234 = some (.aload_n 0, 1) by decide +kernel) rfl
set_option maxRecDepth 20000 in
theorem i218_1235 : ex_ X d 218 1235 [v0, v1, v2, .int x] [w0, w1, w2, w3] h Q = ex_ X d 218 1236 [v0, v1, v2, .int x] [.int x, w0, w1, w2, w3] h Q := ex_nx (show mx_at 218 1235 = some (.iload_n 3, 1) by decide +kernel) rfl
set_option maxRecDepth 20000 in
theorem i218_1236 : ex_ X d 218 1236 [v0, v1, v2, v3] [w0, w1, w2, w3, w4] h Q = ex_ X d 218 1237 [v0, v1, v2, v3] [.int 2, w0, w1, w2, w3, w4] h Q := R_iconst (show mx_at 218 1236 = some (.iconst 2, 1) by decide +kernel) (by decide)
set_option maxRecDepth 20000 in
theorem i218_1237 : ex_ X d 218 1237 [v0, v1, v2, v3] [.int y, .int x, w0, w1, w2, w3] h Q = ex_ X d 218 1238 [v0, v1, v2, v3] [.int (x + y), w0, w1, w2, w3] h Q := ex_nx (show mx_at 218 1237 = some (.iadd, 1) by decide +kernel) rfl
set_option maxRecDepth 20000 in
theorem i218_1238 : ex_ X d 218 1238 [v0, v1, v2, v3] [.int i, .ref a, w0, w1, w2] h Q = (ik_ h a i = true ∧ ex_ X d 218 1239 [v0, v1, v2, v3] [.int (ia_ h a i), w0, w1, w2] h Q) := R_iald (show mx_at 218 1238 = some (.iaload, 1) by decide +kernel)
set_option maxRecDepth 20000 in
theorem i218_1238f : ex_ X d 218 1238 [v0, v1, v2, v3] [.int i, .float 1, w0, w1, w2] h Q = (mx_in i X.1 = true ∧ ex_ X d 218 1239 [v0, v1, v2, v3] [.int (X.2 i.toNatClampNeg), w0, w1, w2] h Q) := R_ialdx (show mx_at 218 1238 = some (.iaload, 1) by decide +kernel) rfl
set_option maxRecDepth 20000 in
theorem i218_1239 : ex_ X d 218 1239 [.ref a, v1, v2, v3] [w0, w1, w2, w3] h Q = ex_ X d 218 1240 [.ref a, v1, v2, v3] [.ref a, w0, w1, w2, w3] h Q := ex_nx (show mx_at 218 1239 = some (.aload_n 0, 1) by decide +kernel) rfl
set_option maxRecDepth 20000 in
theorem i218_1239f0 : ex_ X d 218 1239 [.float 1, v1, v2, v3] [w0, w1, w2, w3] h Q = ex_ X d 218 1240 [.float 1, v1, v2, v3] [.float 1, w0, w1, w2, w3] h Q := ex_nx (show mx_at 218 1239 = some (.aload_n 0, 1) by decide +kernel) rfl
set_option maxRecDepth 20000 in
theorem i218_1240 : ex_ X d 218 1240 [v0, v1, v2, .int x] [w0, w1, w2, w3, w4] h Q = ex_ X d 218 1241 [v0, v1, v2, .int x] [.int x, w0, w1, w2, w3, w4] h Q := ex_nx (show mx_at 218 1240 = some (.iload_n 3, 1) by decide +kernel) rfl
set_option maxRecDepth 20000 in
theorem i218_1241 : ex_ X d 218 1241 [v0, v1, v2, v3] [w0, w1, w2, w3, w4, w5] h Q = ex_ X d 218 1242 [v0, v1, v2, v3] [.int 3, w0, w1, w2, w3, w4, w5] h Q := R_iconst (show mx_at 218 1241 = some (.iconst 3, 1) by decide +kernel) (by decide)
set_option maxRecDepth 20000 in
theorem i218_1242 : ex_ X d 218 1242 [v0, v1, v2, v3] [.int y, .int x, w0, w1, w2, w3, w4] h Q = ex_ X d 218 1243 [v0, v1, v2, v3] [.int (x + y), w0, w1, w2, w3, w4] h Q := ex_nx (show mx_at 218 1242 = some (.iadd, 1) by decide +kernel) rfl
set_option maxRecDepth 20000 in
theorem i218_1243 : ex_ X d 218 1243 [v0, v1, v2, v3] [.int i, .ref a, w0, w1, w2, w3] h Q = (ik_ h a i = true ∧ ex_ X d 218 1244 [v0, v1, v2, v3] [.int (ia_ h a i), w0, w1, w2, w3] h Q) := R_iald (show mx_at 218 1243 = some (.iaload, 1) by decide +kernel)
set_option maxRecDepth 20000 in
theorem i218_1243f : ex_ X d 218 1243 [v0, v1, v2, v3] [.int i, .float 1, w0, w1, w2, w3] h Q = (mx_in i X.1 = true ∧ ex_ X d 218 1244 [v0, v1, v2, v3] [.int (X.2 i.toNatClampNeg), w0, w1, w2, w3] h Q) := R_ialdx (show mx_at 218 1243 = some (.iaload, 1) by decide +kernel) rfl
set_option maxRecDepth 20000 in
theorem i218_1244 : ex_ X d 218 1244 [.ref a, v1, v2, v3] [w0, w1, w2, w3, w4] h Q = ex_ X d 218 1245 [.ref a, v1, v2, v3] [.ref a, w0, w1, w2, w3, w4] h Q := ex_nx (show mx_at 218 1244 = some (.aload_n 0, 1) by decide +kernel) rfl
set_option maxRecDepth 20000 in
theorem i218_1244f0 : ex_ X d 218 1244 [.float 1, v1, v2, v3] [w0, w1, w2, w3, w4] h Q = ex_ X d 218 1245 [.float 1, v1, v2, v3] [.float 1, w0, w1, w2, w3, w4] h Q := ex_nx (show mx_at 218 1244 = some (.aload_n 0, 1) by decide +kernel) rfl
set_option maxRecDepth 20000 in
theorem i218_1245 : ex_ X d 218 1245 [v0, v1, v2, .int x] [w0, w1, w2, w3, w4, w5] h Q = ex_ X d 218 1246 [v0, v1, v2, .int x] [.int x, w0, w1, w2, w3, w4, w5] h Q := ex_nx (show mx_at 218 1245 = some (.iload_n 3, 1) by decide +kernel) rfl
set_option maxRecDepth 20000 in
theorem i218_1246 : ex_ X d 218 1246 [v0, v1, v2, v3] [w0, w1, w2, w3, w4, w5, w6] h Q = ex_ X d 218 1247 [v0, v1, v2, v3] [.int 4, w0, w1, w2, w3, w4, w5, w6] h Q := R_iconst (show mx_at 218 1246 = some (.iconst 4, 1) by decide +kernel) (by decide)
set_option maxRecDepth 20000 in
theorem i218_1247 : ex_ X d 218 1247 [v0, v1, v2, v3] [.int y, .int x, w0, w1, w2, w3, w4, w5] h Q = ex_ X d 218 1248 [v0, v1, v2, v3] [.int (x + y), w0, w1, w2, w3, w4, w5] h Q := ex_nx (show mx_at 218 1247 = some (.iadd, 1) by decide +kernel) rfl
set_option maxRecDepth 20000 in
theorem i218_1248 : ex_ X d 218 1248 [v0, v1, v2, v3] [.int i, .ref a, w0, w1, w2, w3, w4] h Q = (ik_ h a i = true ∧ ex_ X d 218 1249 [v0, v1, v2, v3] [.int (ia_ h a i), w0, w1, w2, w3, w4] h Q) := R_iald (show mx_at 218 1248 = some (.iaload, 1) by decide +kernel)
set_option maxRecDepth 20000 in
theorem i218_1248f : ex_ X d 218 1248 [v0, v1, v2, v3] [.int i, .float 1, w0, w1, w2, w3, w4] h Q = (mx_in i X.1 = true ∧ ex_ X d 218 1249 [v0, v1, v2, v3] [.int (X.2 i.toNatClampNeg), w0, w1, w2, w3, w4] h Q) := R_ialdx (show mx_at 218 1248 = some (.iaload, 1) by decide +kernel) rfl
set_option maxRecDepth 20000 in
theorem i218_1249 : ex_ X d 218 1249 [.ref a, v1, v2, v3] [w0, w1, w2, w3, w4, w5] h Q = ex_ X d 218 1250 [.ref a, v1, v2, v3] [.ref a, w0, w1, w2, w3, w4, w5] h Q := ex_nx (show mx_at 218 1249 = some (.aload_n 0, 1) by decide +kernel) rfl
set_option maxRecDepth 20000 in
theorem i218_1249f0 : ex_ X d 218 1249 [.float 1, v1, v2, v3] [w0, w1, w2, w3, w4, w5] h Q = ex_ X d 218 1250 [.float 1, v1, v2, v3] [.float 1, w0, w1, w2, w3, w4, w5] h Q := ex_nx (show mx_at 218 1249 = some (.aload_n 0, 1) by decide +kernel) rfl
set_option maxRecDepth 20000 in
theorem i218_1250 : ex_ X d 218 1250 [v0, v1, v2, .int x] [w0, w1, w2, w3, w4, w5, w6] h Q = ex_ X d 218 1251 [v0, v1, v2, .int x] [.int x, w0, w1, w2, w3, w4, w5, w6] h Q := ex_nx (show mx_at 218 1250 = some (.iload_n 3, 1) by decide +kernel) rfl
set_option maxRecDepth 20000 in
theorem i218_1251 : ex_ X d 218 1251 [v0, v1, v2, v3] [w0, w1, w2, w3, w4, w5, w6, w7] h Q = ex_ X d 218 1252 [v0, v1, v2, v3] [.int 5, w0, w1, w2, w3, w4, w5, w6, w7] h Q := R_iconst (show mx_at 218 1251 = some (.iconst 5, 1) by decide +kernel) (by decide)
set_option maxRecDepth 20000 in
theorem i218_1252 : ex_ X d 218 1252 [v0, v1, v2, v3] [.int y, .int x, w0, w1, w2, w3, w4, w5, w6] h Q = ex_ X d 218 1253 [v0, v1, v2, v3] [.int (x + y), w0, w1, w2, w3, w4, w5, w6] h Q := ex_nx (show mx_at 218 1252 = some (.iadd, 1) by decide +kernel) rfl
set_option maxRecDepth 20000 in
theorem i218_1253 : ex_ X d 218 1253 [v0, v1, v2, v3] [.int i, .ref a, w0, w1, w2, w3, w4, w5] h Q = (ik_ h a i = true ∧ ex_ X d 218 1254 [v0, v1, v2, v3] [.int (ia_ h a i), w0, w1, w2, w3, w4, w5] h Q) := R_iald (show mx_at 218 1253 = some (.iaload, 1) by decide +kernel)
set_option maxRecDepth 20000 in
theorem i218_1253f : ex_ X d 218 1253 [v0, v1, v2, v3] [.int i, .float 1, w0, w1, w2, w3, w4, w5] h Q = (mx_in i X.1 = true ∧ ex_ X d 218 1254 [v0, v1, v2, v3] [.int (X.2 i.toNatClampNeg), w0, w1, w2, w3, w4, w5] h Q) := R_ialdx (show mx_at 218 1253 = some (.iaload, 1) by decide +kernel) rfl
set_option maxRecDepth 20000 in
theorem i218_1254 (hc : co_ h a = some 12) : ex_ X (d + 1) 218 1254 [v0, v1, v2, v3] [.int x4, .int x3, .int x2, .int x1, .int x0, .ref a, w0] h Q = ev_ X d 201 [.ref a, .int x0, .int x1, .int x2, .int x3, .int x4] h (fun r h' => ex_ X (d + 1) 218 1257 [v0, v1, v2, v3] (r.toList ++ [w0]) h' Q) := R_vir (show mx_at 218 1254 = some (.invokevirtual 140, 3) by decide +kernel) (mx_clk ow218 cc21_140) (Nat.le_of_ble_eq_true rfl) rfl rfl hc rfl (Nat.le_of_ble_eq_true rfl) (Nat.le_of_ble_eq_true rfl) (by rw [ml201]; exact Nat.le_of_ble_eq_true rfl)
set_option maxRecDepth 20000 in
theorem i218_1257 : ex_ X d 218 1257 [v0, v1, v2, v3] [.int y, .int x] h Q = if x = y then ex_ X d 218 1380 [v0, v1, v2, v3] [] h Q else ex_ X d 218 1260 [v0, v1, v2, v3] [] h Q := (R_br (show mx_at 218 1257 = some (.if_icmp .eq 123, 3) by decide +kernel) rfl rfl).trans mx_ite
set_option maxRecDepth 20000 in
theorem i218_1260 : ex_ X d 218 1260 [v0, v1, v2, v3] [] h Q = ex_ X d 218 1261 [v0, v1, v2, v3] [.int 0] h Q := R_iconst (show mx_at 218 1260 = some (.iconst 0, 1) by decide +kernel) (by decide)
set_option maxRecDepth 20000 in
theorem i218_1261 (hx : x = 0 ∨ x = 1) : ex_ X d 218 1261 [v0, v1, v2, v3] [.int x] h Q = Q (some (.int x)) h := ex_ret (show mx_at 218 1261 = some (.ireturn, 1) by decide +kernel) (mx_retZ hx rt218)
set_option maxRecDepth 20000 in
theorem i218_1262 : ex_ X d 218 1262 [v0, .ref a, v2, v3] [] h Q = ex_ X d 218 1263 [v0, .ref a, v2, v3] [.ref a] h Q := ex_nx (show mx_at 218 1262 = some (.aload_n 1, 1) by decide +kernel) rfl
set_option maxRecDepth 20000 in
theorem i218_1262f0 : ex_ X d 218 1262 [v0, .float 1, v2, v3] [] h Q = ex_ X d 218 1263 [v0, .float 1, v2, v3] [.float 1] h Q := ex_nx (show mx_at 218 1262 = some (.aload_n 1, 1) by decide +kernel) rfl
set_option maxRecDepth 20000 in
theorem i218_1263 (hc : co_ h a = some 11) : ex_ X (d + 1) 218 1263 [v0, v1, v2, v3] [.ref a] h Q = ev_ X d 100 [.ref a] h (fun r h' => ex_ X (d + 1) 218 1266 [v0, v1, v2, v3] (r.toList ++ []) h' Q) := R_vir (show mx_at 218 1263 = some (.invokevirtual 141, 3) by decide +kernel) (mx_clk ow218 cc21_141) (Nat.le_of_ble_eq_true rfl) rfl rfl hc rfl (Nat.le_of_ble_eq_true rfl) (Nat.le_of_ble_eq_true rfl) (by rw [ml100]; exact Nat.le_of_ble_eq_true rfl)
set_option maxRecDepth 20000 in
theorem i218_1266 : ex_ X d 218 1266 [v0, v1, .ref a, v3] [w0] h Q = ex_ X d 218 1267 [v0, v1, .ref a, v3] [.ref a, w0] h Q := ex_nx (show mx_at 218 1266 = some (.aload_n 2, 1) by decide +kernel) rfl
set_option maxRecDepth 20000 in
theorem i218_1266f0 : ex_ X d 218 1266 [v0, v1, .float 1, v3] [w0] h Q = ex_ X d 218 1267 [v0, v1, .float 1, v3] [.float 1, w0] h Q := ex_nx (show mx_at 218 1266 = some (.aload_n 2, 1) by decide +kernel) rfl
set_option maxRecDepth 20000 in
theorem i218_1267 (hc : co_ h a = some 12) : ex_ X (d + 1) 218 1267 [v0, v1, v2, v3] [.ref a, w0] h Q = ev_ X d 202 [.ref a] h (fun r h' => ex_ X (d + 1) 218 1270 [v0, v1, v2, v3] (r.toList ++ [w0]) h' Q) := R_vir (show mx_at 218 1267 = some (.invokevirtual 145, 3) by decide +kernel) (mx_clk ow218 cc21_145) (Nat.le_of_ble_eq_true rfl) rfl rfl hc rfl (Nat.le_of_ble_eq_true rfl) (Nat.le_of_ble_eq_true rfl) (by rw [ml202]; exact Nat.le_of_ble_eq_true rfl)
set_option maxRecDepth 20000 in
theorem i218_1270 : ex_ X d 218 1270 [v0, v1, v2, v3] [.int y, .int x] h Q = if x = y then ex_ X d 218 1380 [v0, v1, v2, v3] [] h Q else ex_ X d 218 1273 [v0, v1, v2, v3] [] h Q := (R_br (show mx_at 218 1270 = some (.if_icmp .eq 110, 3) by decide +kernel) rfl rfl).trans mx_ite
set_option maxRecDepth 20000 in
theorem i218_1273 : ex_ X d 218 1273 [v0, v1, v2, v3] [] h Q = ex_ X d 218 1274 [v0, v1, v2, v3] [.int 0] h Q := R_iconst (show mx_at 218 1273 = some (.iconst 0, 1) by decide +kernel) (by decide)
set_option maxRecDepth 20000 in
theorem i218_1274 (hx : x = 0 ∨ x = 1) : ex_ X d 218 1274 [v0, v1, v2, v3] [.int x] h Q = Q (some (.int x)) h := ex_ret (show mx_at 218 1274 = some (.ireturn, 1) by decide +kernel) (mx_retZ hx rt218)
set_option maxRecDepth 20000 in
theorem i218_1275 : ex_ X d 218 1275 [v0, .ref a, v2, v3] [] h Q = ex_ X d 218 1276 [v0, .ref a, v2, v3] [.ref a] h Q := ex_nx (show mx_at 218 1275 = some (.aload_n 1, 1) by decide +kernel) rfl
set_option maxRecDepth 20000 in
theorem i218_1275f0 : ex_ X d 218 1275 [v0, .float 1, v2, v3] [] h Q = ex_ X d 218 1276 [v0, .float 1, v2, v3] [.float 1] h Q := ex_nx (show mx_at 218 1275 = some (.aload_n 1, 1) by decide +kernel) rfl
set_option maxRecDepth 20000 in
theorem i218_1276 (hc : co_ h a = some 11) : ex_ X (d + 1) 218 1276 [v0, v1, v2, v3] [.ref a] h Q = ev_ X d 101 [.ref a] h (fun r h' => ex_ X (d + 1) 218 1279 [v0, v1, v2, v3] (r.toList ++ []) h' Q) := R_vir (show mx_at 218 1276 = some (.invokevirtual 146, 3) by decide +kernel) (mx_clk ow218 cc21_146) (Nat.le_of_ble_eq_true rfl) rfl rfl hc rfl (Nat.le_of_ble_eq_true rfl) (Nat.le_of_ble_eq_true rfl) (by rw [ml101]; exact Nat.le_of_ble_eq_true rfl)
set_option maxRecDepth 20000 in
theorem i218_1279 : ex_ X d 218 1279 [v0, v1, .ref a, v3] [w0] h Q = ex_ X d 218 1280 [v0, v1, .ref a, v3] [.ref a, w0] h Q := ex_nx (show mx_at 218 1279 = some (.aload_n 2, 1) by decide +kernel) rfl
set_option maxRecDepth 20000 in
theorem i218_1279f0 : ex_ X d 218 1279 [v0, v1, .float 1, v3] [w0] h Q = ex_ X d 218 1280 [v0, v1, .float 1, v3] [.float 1, w0] h Q := ex_nx (show mx_at 218 1279 = some (.aload_n 2, 1) by decide +kernel) rfl
set_option maxRecDepth 20000 in
theorem i218_1280 (hc : co_ h a = some 12) : ex_ X (d + 1) 218 1280 [v0, v1, v2, v3] [.ref a, w0] h Q = ev_ X d 203 [.ref a] h (fun r h' => ex_ X (d + 1) 218 1283 [v0, v1, v2, v3] (r.toList ++ [w0]) h' Q) := R_vir (show mx_at 218 1280 = some (.invokevirtual 149, 3) by decide +kernel) (mx_clk ow218 cc21_149) (Nat.le_of_ble_eq_true rfl) rfl rfl hc rfl (Nat.le_of_ble_eq_true rfl) (Nat.le_of_ble_eq_true rfl) (by rw [ml203]; exact Nat.le_of_ble_eq_true rfl)
set_option maxRecDepth 20000 in
theorem i218_1283 : ex_ X d 218 1283 [v0, v1, v2, v3] [.int y, .int x] h Q = if x = y then ex_ X d 218 1380 [v0, v1, v2, v3] [] h Q else ex_ X d 218 1286 [v0, v1, v2, v3] [] h Q := (R_br (show mx_at 218 1283 = some (.if_icmp .eq 97, 3) by decide +kernel) rfl rfl).trans mx_ite
set_option maxRecDepth 20000 in
theorem i218_1286 : ex_ X d 218 1286 [v0, v1, v2, v3] [] h Q = ex_ X d 218 1287 [v0, v1, v2, v3] [.int 0] h Q := R_iconst (show mx_at 218 1286 = some (.iconst 0, 1) by decide +kernel) (by decide)
set_option maxRecDepth 20000 in
theorem i218_1287 (hx : x = 0 ∨ x = 1) : ex_ X d 218 1287 [v0, v1, v2, v3] [.int x] h Q = Q (some (.int x)) h := ex_ret (show mx_at 218 1287 = some (.ireturn, 1) by decide +kernel) (mx_retZ hx rt218)
set_option maxRecDepth 20000 in
theorem i218_1288 : ex_ X d 218 1288 [v0, .ref a, v2, v3] [] h Q = ex_ X d 218 1289 [v0, .ref a, v2, v3] [.ref a] h Q := ex_nx (show mx_at 218 1288 = some (.aload_n 1, 1) by decide +kernel) rfl
set_option maxRecDepth 20000 in
theorem i218_1288f0 : ex_ X d 218 1288 [v0, .float 1, v2, v3] [] h Q = ex_ X d 218 1289 [v0, .float 1, v2, v3] [.float 1] h Q := ex_nx (show mx_at 218 1288 = some (.aload_n 1, 1) by decide +kernel) rfl
set_option maxRecDepth 20000 in
theorem i218_1289 : ex_ X d 218 1289 [.ref a, v1, v2, v3] [w0] h Q = ex_ X d 218 1290 [.ref a, v1, v2, v3] [.ref a, w0] h Q := ex_nx (show mx_at 218 1289 = some (.aload_n 0, 1) by decide +kernel) rfl
set_option maxRecDepth 20000 in
theorem i218_1289f0 : ex_ X d 218 1289 [.float 1, v1, v2, v3] [w0] h Q = ex_ X d 218 1290 [.float 1, v1, v2, v3] [.float 1, w0] h Q := ex_nx (show mx_at 218 1289 = some (.aload_n 0, 1) by decide +kernel) rfl
set_option maxRecDepth 20000 in
theorem i218_1290 : ex_ X d 218 1290 [v0, v1, v2, .int x] [w0, w1] h Q = ex_ X d 218 1291 [v0, v1, v2, .int x] [.int x, w0, w1] h Q := ex_nx (show mx_at 218 1290 = some (.iload_n 3, 1) by decide +kernel) rfl
set_option maxRecDepth 20000 in
theorem i218_1291 : ex_ X d 218 1291 [v0, v1, v2, v3] [w0, w1, w2] h Q = ex_ X d 218 1292 [v0, v1, v2, v3] [.int 1, w0, w1, w2] h Q := R_iconst (show mx_at 218 1291 = some (.iconst 1, 1) by decide +kernel) (by decide)
set_option maxRecDepth 20000 in
theorem i218_1292 : ex_ X d 218 1292 [v0, v1, v2, v3] [.int y, .int x, w0, w1] h Q = ex_ X d 218 1293 [v0, v1, v2, v3] [.int (x + y), w0, w1] h Q := ex_nx (show mx_at 218 1292 = some (.iadd, 1) by decide +kernel) rfl
set_option maxRecDepth 20000 in
theorem i218_1293 : ex_ X d 218 1293 [v0, v1, v2, v3] [.int i, .ref a, w0] h Q = (ik_ h a i = true ∧ ex_ X d 218 1294 [v0, v1, v2, v3] [.int (ia_ h a i), w0] h Q) := R_iald (show mx_at 218 1293 = some (.iaload, 1) by decide +kernel)
set_option maxRecDepth 20000 in
theorem i218_1293f : ex_ X d 218 1293 [v0, v1, v2, v3] [.int i, .float 1, w0] h Q = (mx_in i X.1 = true ∧ ex_ X d 218 1294 [v0, v1, v2, v3] [.int (X.2 i.toNatClampNeg), w0] h Q) := R_ialdx (show mx_at 218 1293 = some (.iaload, 1) by decide +kernel) rfl
set_option maxRecDepth 20000 in
theorem i218_1294 (hc : co_ h a = some 11) : ex_ X (d + 1) 218 1294 [v0, v1, v2, v3] [.int x0, .ref a] h Q = ev_ X d 102 [.ref a, .int x0] h (fun r h' => ex_ X (d + 1) 218 1297 [v0, v1, v2, v3] (r.toList ++ []) h' Q) := R_vir (show mx_at 218 1294 = some (.invokevirtual 150, 3) by decide +kernel) (mx_clk ow218 cc21_150) (Nat.le_of_ble_eq_true rfl) rfl rfl hc rfl (Nat.le_of_ble_eq_true rfl) (Nat.le_of_ble_eq_true rfl) (by rw [ml102]; exact Nat.le_of_ble_eq_true rfl)
set_option maxRecDepth 20000 in
theorem i218_1297 : ex_ X d 218 1297 [v0, v1, .ref a, v3] [w0] h Q = ex_ X d 218 1298 [v0, v1, .ref a, v3] [.ref a, w0] h Q := ex_nx (show mx_at 218 1297 = some (.aload_n 2, 1) by decide +kernel) rfl
set_option maxRecDepth 20000 in
theorem i218_1297f0 : ex_ X d 218 1297 [v0, v1, .float 1, v3] [w0] h Q = ex_ X d 218 1298 [v0, v1, .float 1, v3] [.float 1, w0] h Q := ex_nx (show mx_at 218 1297 = some (.aload_n 2, 1) by decide +kernel) rfl
set_option maxRecDepth 20000 in
theorem i218_1298 : ex_ X d 218 1298 [.ref a, v1, v2, v3] [w0, w1] h Q = ex_ X d 218 1299 [.ref a, v1, v2, v3] [.ref a, w0, w1] h Q := ex_nx (show mx_at 218 1298 = some (.aload_n 0, 1) by decide +kernel) rfl
set_option maxRecDepth 20000 in
theorem i218_1298f0 : ex_ X d 218 1298 [.float 1, v1, v2, v3] [w0, w1] h Q = ex_ X d 218 1299 [.float 1, v1, v2, v3] [.float 1, w0, w1] h Q := ex_nx (show mx_at 218 1298 = some (.aload_n 0, 1) by decide +kernel) rfl
set_option maxRecDepth 20000 in
theorem i218_1299 : ex_ X d 218 1299 [v0, v1, v2, .int x] [w0, w1, w2] h Q = ex_ X d 218 1300 [v0, v1, v2, .int x] [.int x, w0, w1, w2] h Q := ex_nx (show mx_at 218 1299 = some (.iload_n 3, 1) by decide +kernel) rfl
set_option maxRecDepth 20000 in
theorem i218_1300 : ex_ X d 218 1300 [v0, v1, v2, v3] [w0, w1, w2, w3] h Q = ex_ X d 218 1301 [v0, v1, v2, v3] [.int 1, w0, w1, w2, w3] h Q := R_iconst (show mx_at 218 1300 = some (.iconst 1, 1) by decide +kernel) (by decide)
set_option maxRecDepth 20000 in
theorem i218_1301 : ex_ X d 218 1301 [v0, v1, v2, v3] [.int y, .int x, w0, w1, w2] h Q = ex_ X d 218 1302 [v0, v1, v2, v3] [.int (x + y), w0, w1, w2] h Q := ex_nx (show mx_at 218 1301 = some (.iadd, 1) by decide +kernel) rfl
set_option maxRecDepth 20000 in
theorem i218_1302 : ex_ X d 218 1302 [v0, v1, v2, v3] [.int i, .ref a, w0, w1] h Q = (ik_ h a i = true ∧ ex_ X d 218 1303 [v0, v1, v2, v3] [.int (ia_ h a i), w0, w1] h Q) := R_iald (show mx_at 218 1302 = some (.iaload, 1) by decide +kernel)
set_option maxRecDepth 20000 in
theorem i218_1302f : ex_ X d 218 1302 [v0, v1, v2, v3] [.int i, .float 1, w0, w1] h Q = (mx_in i X.1 = true ∧ ex_ X d 218 1303 [v0, v1, v2, v3] [.int (X.2 i.toNatClampNeg), w0, w1] h Q) := R_ialdx (show mx_at 218 1302 = some (.iaload, 1) by decide +kernel) rfl
set_option maxRecDepth 20000 in
theorem i218_1303 (hc : co_ h a = some 12) : ex_ X (d + 1) 218 1303 [v0, v1, v2, v3] [.int x0, .ref a, w0] h Q = ev_ X d 204 [.ref a, .int x0] h (fun r h' => ex_ X (d + 1) 218 1306 [v0, v1, v2, v3] (r.toList ++ [w0]) h' Q) := R_vir (show mx_at 218 1303 = some (.invokevirtual 153, 3) by decide +kernel) (mx_clk ow218 cc21_153) (Nat.le_of_ble_eq_true rfl) rfl rfl hc rfl (Nat.le_of_ble_eq_true rfl) (Nat.le_of_ble_eq_true rfl) (by rw [ml204]; exact Nat.le_of_ble_eq_true rfl)
set_option maxRecDepth 20000 in
theorem i218_1306 : ex_ X d 218 1306 [v0, v1, v2, v3] [.int y, .int x] h Q = if x = y then ex_ X d 218 1380 [v0, v1, v2, v3] [] h Q else ex_ X d 218 1309 [v0, v1, v2, v3] [] h Q := (R_br (show mx_at 218 1306 = some (.if_icmp .eq 74, 3) by decide +kernel) rfl rfl).trans mx_ite
set_option maxRecDepth 20000 in
theorem i218_1309 : ex_ X d 218 1309 [v0, v1, v2, v3] [] h Q = ex_ X d 218 1310 [v0, v1, v2, v3] [.int 0] h Q := R_iconst (show mx_at 218 1309 = some (.iconst 0, 1) by decide +kernel) (by decide)
set_option maxRecDepth 20000 in
theorem i218_1310 (hx : x = 0 ∨ x = 1) : ex_ X d 218 1310 [v0, v1, v2, v3] [.int x] h Q = Q (some (.int x)) h := ex_ret (show mx_at 218 1310 = some (.ireturn, 1) by decide +kernel) (mx_retZ hx rt218)
set_option maxRecDepth 20000 in
theorem i218_1311 : ex_ X d 218 1311 [v0, .ref a, v2, v3] [] h Q = ex_ X d 218 1312 [v0, .ref a, v2, v3] [.ref a] h Q := ex_nx (show mx_at 218 1311 = some (.aload_n 1, 1) by decide +kernel) rfl
set_option maxRecDepth 20000 in
theorem i218_1311f0 : ex_ X d 218 1311 [v0, .float 1, v2, v3] [] h Q = ex_ X d 218 1312 [v0, .float 1, v2, v3] [.float 1] h Q := ex_nx (show mx_at 218 1311 = some (.aload_n 1, 1) by decide +kernel) rfl
set_option maxRecDepth 20000 in
theorem i218_1312 : ex_ X d 218 1312 [.ref a, v1, v2, v3] [w0] h Q = ex_ X d 218 1313 [.ref a, v1, v2, v3] [.ref a, w0] h Q := ex_nx (show mx_at 218 1312 = some (.aload_n 0, 1) by decide +kernel) rfl
set_option maxRecDepth 20000 in
theorem i218_1312f0 : ex_ X d 218 1312 [.float 1, v1, v2, v3] [w0] h Q = ex_ X d 218 1313 [.float 1, v1, v2, v3] [.float 1, w0] h Q := ex_nx (show mx_at 218 1312 = some (.aload_n 0, 1) by decide +kernel) rfl
set_option maxRecDepth 20000 in
theorem i218_1313 : ex_ X d 218 1313 [v0, v1, v2, .int x] [w0, w1] h Q = ex_ X d 218 1314 [v0, v1, v2, .int x] [.int x, w0, w1] h Q := ex_nx (show mx_at 218 1313 = some (.iload_n 3, 1) by decide +kernel) rfl
set_option maxRecDepth 20000 in
theorem i218_1314 : ex_ X d 218 1314 [v0, v1, v2, v3] [w0, w1, w2] h Q = ex_ X d 218 1315 [v0, v1, v2, v3] [.int 1, w0, w1, w2] h Q := R_iconst (show mx_at 218 1314 = some (.iconst 1, 1) by decide +kernel) (by decide)
set_option maxRecDepth 20000 in
theorem i218_1315 : ex_ X d 218 1315 [v0, v1, v2, v3] [.int y, .int x, w0, w1] h Q = ex_ X d 218 1316 [v0, v1, v2, v3] [.int (x + y), w0, w1] h Q := ex_nx (show mx_at 218 1315 = some (.iadd, 1) by decide +kernel) rfl
set_option maxRecDepth 20000 in
theorem i218_1316 : ex_ X d 218 1316 [v0, v1, v2, v3] [.int i, .ref a, w0] h Q = (ik_ h a i = true ∧ ex_ X d 218 1317 [v0, v1, v2, v3] [.int (ia_ h a i), w0] h Q) := R_iald (show mx_at 218 1316 = some (.iaload, 1) by decide +kernel)
set_option maxRecDepth 20000 in
theorem i218_1316f : ex_ X d 218 1316 [v0, v1, v2, v3] [.int i, .float 1, w0] h Q = (mx_in i X.1 = true ∧ ex_ X d 218 1317 [v0, v1, v2, v3] [.int (X.2 i.toNatClampNeg), w0] h Q) := R_ialdx (show mx_at 218 1316 = some (.iaload, 1) by decide +kernel) rfl
set_option maxRecDepth 20000 in
theorem i218_1317 (hc : co_ h a = some 11) : ex_ X (d + 1) 218 1317 [v0, v1, v2, v3] [.int x0, .ref a] h Q = ev_ X d 103 [.ref a, .int x0] h (fun r h' => ex_ X (d + 1) 218 1320 [v0, v1, v2, v3] (r.toList ++ []) h' Q) := R_vir (show mx_at 218 1317 = some (.invokevirtual 154, 3) by decide +kernel) (mx_clk ow218 cc21_154) (Nat.le_of_ble_eq_true rfl) rfl rfl hc rfl (Nat.le_of_ble_eq_true rfl) (Nat.le_of_ble_eq_true rfl) (by rw [ml103]; exact Nat.le_of_ble_eq_true rfl)
set_option maxRecDepth 20000 in
theorem i218_1320 : ex_ X d 218 1320 [v0, v1, .ref a, v3] [w0] h Q = ex_ X d 218 1321 [v0, v1, .ref a, v3] [.ref a, w0] h Q := ex_nx (show mx_at 218 1320 = some (.aload_n 2, 1) by decide +kernel) rfl
set_option maxRecDepth 20000 in
theorem i218_1320f0 : ex_ X d 218 1320 [v0, v1, .float 1, v3] [w0] h Q = ex_ X d 218 1321 [v0, v1, .float 1, v3] [.float 1, w0] h Q := ex_nx (show mx_at 218 1320 = some (.aload_n 2, 1) by decide +kernel) rfl
set_option maxRecDepth 20000 in
theorem i218_1321 : ex_ X d 218 1321 [.ref a, v1, v2, v3] [w0, w1] h Q = ex_ X d 218 1322 [.ref a, v1, v2, v3] [.ref a, w0, w1] h Q := ex_nx (show mx_at 218 1321 = some (.aload_n 0, 1) by decide +kernel) rfl
set_option maxRecDepth 20000 in
theorem i218_1321f0 : ex_ X d 218 1321 [.float 1, v1, v2, v3] [w0, w1] h Q = ex_ X d 218 1322 [.float 1, v1, v2, v3] [.float 1, w0, w1] h Q := ex_nx (show mx_at 218 1321 = some (.aload_n 0, 1) by decide +kernel) rfl
set_option maxRecDepth 20000 in
theorem i218_1322 : ex_ X d 218 1322 [v0, v1, v2, .int x] [w0, w1, w2] h Q = ex_ X d 218 1323 [v0, v1, v2, .int x] [.int x, w0, w1, w2] h Q := ex_nx (show mx_at 218 1322 = some (.iload_n 3, 1) by decide +kernel) rfl
set_option maxRecDepth 20000 in
theorem i218_1323 : ex_ X d 218 1323 [v0, v1, v2, v3] [w0, w1, w2, w3] h Q = ex_ X d 218 1324 [v0, v1, v2, v3] [.int 1, w0, w1, w2, w3] h Q := R_iconst (show mx_at 218 1323 = some (.iconst 1, 1) by decide +kernel) (by decide)
set_option maxRecDepth 20000 in
theorem i218_1324 : ex_ X d 218 1324 [v0, v1, v2, v3] [.int y, .int x, w0, w1, w2] h Q = ex_ X d 218 1325 [v0, v1, v2, v3] [.int (x + y), w0, w1, w2] h Q := ex_nx (show mx_at 218 1324 = some (.iadd, 1) by decide +kernel) rfl
set_option maxRecDepth 20000 in
theorem i218_1325 : ex_ X d 218 1325 [v0, v1, v2, v3] [.int i, .ref a, w0, w1] h Q = (ik_ h a i = true ∧ ex_ X d 218 1326 [v0, v1, v2, v3] [.int (ia_ h a i), w0, w1] h Q) := R_iald (show mx_at 218 1325 = some (.iaload, 1) by decide +kernel)
set_option maxRecDepth 20000 in
theorem i218_1325f : ex_ X d 218 1325 [v0, v1, v2, v3] [.int i, .float 1, w0, w1] h Q = (mx_in i X.1 = true ∧ ex_ X d 218 1326 [v0, v1, v2, v3] [.int (X.2 i.toNatClampNeg), w0, w1] h Q) := R_ialdx (show mx_at 218 1325 = some (.iaload, 1) by decide +kernel) rfl
set_option maxRecDepth 20000 in
theorem i218_1326 (hc : co_ h a = some 12) : ex_ X (d + 1) 218 1326 [v0, v1, v2, v3] [.int x0, .ref a, w0] h Q = ev_ X d 205 [.ref a, .int x0] h (fun r h' => ex_ X (d + 1) 218 1329 [v0, v1, v2, v3] (r.toList ++ [w0]) h' Q) := R_vir (show mx_at 218 1326 = some (.invokevirtual 157, 3) by decide +kernel) (mx_clk ow218 cc21_157) (Nat.le_of_ble_eq_true rfl) rfl rfl hc rfl (Nat.le_of_ble_eq_true rfl) (Nat.le_of_ble_eq_true rfl) (by rw [ml205]; exact Nat.le_of_ble_eq_true rfl)
set_option maxRecDepth 20000 in
theorem i218_1329 : ex_ X d 218 1329 [v0, v1, v2, v3] [.int y, .int x] h Q = if x = y then ex_ X d 218 1380 [v0, v1, v2, v3] [] h Q else ex_ X d 218 1332 [v0, v1, v2, v3] [] h Q := (R_br (show mx_at 218 1329 = some (.if_icmp .eq 51, 3) by decide +kernel) rfl rfl).trans mx_ite
set_option maxRecDepth 20000 in
theorem i218_1332 : ex_ X d 218 1332 [v0, v1, v2, v3] [] h Q = ex_ X d 218 1333 [v0, v1, v2, v3] [.int 0] h Q := R_iconst (show mx_at 218 1332 = some (.iconst 0, 1) by decide +kernel) (by decide)
set_option maxRecDepth 20000 in
theorem i218_1333 (hx : x = 0 ∨ x = 1) : ex_ X d 218 1333 [v0, v1, v2, v3] [.int x] h Q = Q (some (.int x)) h := ex_ret (show mx_at 218 1333 = some (.ireturn, 1) by decide +kernel) (mx_retZ hx rt218)
set_option maxRecDepth 20000 in
theorem i218_1334 : ex_ X d 218 1334 [v0, .ref a, v2, v3] [] h Q = ex_ X d 218 1335 [v0, .ref a, v2, v3] [.ref a] h Q := ex_nx (show mx_at 218 1334 = some (.aload_n 1, 1) by decide +kernel) rfl
set_option maxRecDepth 20000 in
theorem i218_1334f0 : ex_ X d 218 1334 [v0, .float 1, v2, v3] [] h Q = ex_ X d 218 1335 [v0, .float 1, v2, v3] [.float 1] h Q := ex_nx (show mx_at 218 1334 = some (.aload_n 1, 1) by decide +kernel) rfl
set_option maxRecDepth 20000 in
theorem i218_1335 : ex_ X d 218 1335 [.ref a, v1, v2, v3] [w0] h Q = ex_ X d 218 1336 [.ref a, v1, v2, v3] [.ref a, w0] h Q := ex_nx (show mx_at 218 1335 = some (.aload_n 0, 1) by decide +kernel) rfl
set_option maxRecDepth 20000 in
theorem i218_1335f0 : ex_ X d 218 1335 [.float 1, v1, v2, v3] [w0] h Q = ex_ X d 218 1336 [.float 1, v1, v2, v3] [.float 1, w0] h Q := ex_nx (show mx_at 218 1335 = some (.aload_n 0, 1) by decide +kernel) rfl
set_option maxRecDepth 20000 in
theorem i218_1336 : ex_ X d 218 1336 [v0, v1, v2, .int x] [w0, w1] h Q = ex_ X d 218 1337 [v0, v1, v2, .int x] [.int x, w0, w1] h Q := ex_nx (show mx_at 218 1336 = some (.iload_n 3, 1) by decide +kernel) rfl
set_option maxRecDepth 20000 in
theorem i218_1337 : ex_ X d 218 1337 [v0, v1, v2, v3] [w0, w1, w2] h Q = ex_ X d 218 1338 [v0, v1, v2, v3] [.int 1, w0, w1, w2] h Q := R_iconst (show mx_at 218 1337 = some (.iconst 1, 1) by decide +kernel) (by decide)
set_option maxRecDepth 20000 in
theorem i218_1338 : ex_ X d 218 1338 [v0, v1, v2, v3] [.int y, .int x, w0, w1] h Q = ex_ X d 218 1339 [v0, v1, v2, v3] [.int (x + y), w0, w1] h Q := ex_nx (show mx_at 218 1338 = some (.iadd, 1) by decide +kernel) rfl
set_option maxRecDepth 20000 in
theorem i218_1339 : ex_ X d 218 1339 [v0, v1, v2, v3] [.int i, .ref a, w0] h Q = (ik_ h a i = true ∧ ex_ X d 218 1340 [v0, v1, v2, v3] [.int (ia_ h a i), w0] h Q) := R_iald (show mx_at 218 1339 = some (.iaload, 1) by decide +kernel)
set_option maxRecDepth 20000 in
theorem i218_1339f : ex_ X d 218 1339 [v0, v1, v2, v3] [.int i, .float 1, w0] h Q = (mx_in i X.1 = true ∧ ex_ X d 218 1340 [v0, v1, v2, v3] [.int (X.2 i.toNatClampNeg), w0] h Q) := R_ialdx (show mx_at 218 1339 = some (.iaload, 1) by decide +kernel) rfl
set_option maxRecDepth 20000 in
theorem i218_1340 (hc : co_ h a = some 11) : ex_ X (d + 1) 218 1340 [v0, v1, v2, v3] [.int x0, .ref a] h Q = ev_ X d 104 [.ref a, .int x0] h (fun r h' => ex_ X (d + 1) 218 1343 [v0, v1, v2, v3] (r.toList ++ []) h' Q) := R_vir (show mx_at 218 1340 = some (.invokevirtual 158, 3) by decide +kernel) (mx_clk ow218 cc21_158) (Nat.le_of_ble_eq_true rfl) rfl rfl hc rfl (Nat.le_of_ble_eq_true rfl) (Nat.le_of_ble_eq_true rfl) (by rw [ml104]; exact Nat.le_of_ble_eq_true rfl)
set_option maxRecDepth 20000 in
theorem i218_1343 : ex_ X d 218 1343 [v0, v1, .ref a, v3] [w0] h Q = ex_ X d 218 1344 [v0, v1, .ref a, v3] [.ref a, w0] h Q := ex_nx (show mx_at 218 1343 = some (.aload_n 2, 1) by decide +kernel) rfl
set_option maxRecDepth 20000 in
theorem i218_1343f0 : ex_ X d 218 1343 [v0, v1, .float 1, v3] [w0] h Q = ex_ X d 218 1344 [v0, v1, .float 1, v3] [.float 1, w0] h Q := ex_nx (show mx_at 218 1343 = some (.aload_n 2, 1) by decide +kernel) rfl
set_option maxRecDepth 20000 in
theorem i218_1344 : ex_ X d 218 1344 [.ref a, v1, v2, v3] [w0, w1] h Q = ex_ X d 218 1345 [.ref a, v1, v2, v3] [.ref a, w0, w1] h Q := ex_nx (show mx_at 218 1344 = some (.aload_n 0, 1) by decide +kernel) rfl
set_option maxRecDepth 20000 in
theorem i218_1344f0 : ex_ X d 218 1344 [.float 1, v1, v2, v3] [w0, w1] h Q = ex_ X d 218 1345 [.float 1, v1, v2, v3] [.float 1, w0, w1] h Q := ex_nx (show mx_at 218 1344 = some (.aload_n 0, 1) by decide +kernel) rfl
set_option maxRecDepth 20000 in
theorem i218_1345 : ex_ X d 218 1345 [v0, v1, v2, .int x] [w0, w1, w2] h Q = ex_ X d 218 1346 [v0, v1, v2, .int x] [.int x, w0, w1, w2] h Q := ex_nx (show mx_at 218 1345 = some (.iload_n 3, 1) by decide +kernel) rfl
set_option maxRecDepth 20000 in
theorem i218_1346 : ex_ X d 218 1346 [v0, v1, v2, v3] [w0, w1, w2, w3] h Q = ex_ X d 218 1347 [v0, v1, v2, v3] [.int 1, w0, w1, w2, w3] h Q := R_iconst (show mx_at 218 1346 = some (.iconst 1, 1) by decide +kernel) (by decide)
set_option maxRecDepth 20000 in
theorem i218_1347 : ex_ X d 218 1347 [v0, v1, v2, v3] [.int y, .int x, w0, w1, w2] h Q = ex_ X d 218 1348 [v0, v1, v2, v3] [.int (x + y), w0, w1, w2] h Q := ex_nx (show mx_at 218 1347 = some (.iadd, 1) by decide +kernel) rfl
set_option maxRecDepth 20000 in
theorem i218_1348 : ex_ X d 218 1348 [v0, v1, v2, v3] [.int i, .ref a, w0, w1] h Q = (ik_ h a i = true ∧ ex_ X d 218 1349 [v0, v1, v2, v3] [.int (ia_ h a i), w0, w1] h Q) := R_iald (show mx_at 218 1348 = some (.iaload, 1) by decide +kernel)
set_option maxRecDepth 20000 in
theorem i218_1348f : ex_ X d 218 1348 [v0, v1, v2, v3] [.int i, .float 1, w0, w1] h Q = (mx_in i X.1 = true ∧ ex_ X d 218 1349 [v0, v1, v2, v3] [.int (X.2 i.toNatClampNeg), w0, w1] h Q) := R_ialdx (show mx_at 218 1348 = some (.iaload, 1) by decide +kernel) rfl
set_option maxRecDepth 20000 in
theorem i218_1349 (hc : co_ h a = some 12) : ex_ X (d + 1) 218 1349 [v0, v1, v2, v3] [.int x0, .ref a, w0] h Q = ev_ X d 207 [.ref a, .int x0] h (fun r h' => ex_ X (d + 1) 218 1352 [v0, v1, v2, v3] (r.toList ++ [w0]) h' Q) := R_vir (show mx_at 218 1349 = some (.invokevirtual 161, 3) by decide +kernel) (mx_clk ow218 cc21_161) (Nat.le_of_ble_eq_true rfl) rfl rfl hc rfl (Nat.le_of_ble_eq_true rfl) (Nat.le_of_ble_eq_true rfl) (by rw [ml207]; exact Nat.le_of_ble_eq_true rfl)
set_option maxRecDepth 20000 in
theorem i218_1352 : ex_ X d 218 1352 [v0, v1, v2, v3] [.int y, .int x] h Q = if x = y then ex_ X d 218 1380 [v0, v1, v2, v3] [] h Q else ex_ X d 218 1355 [v0, v1, v2, v3] [] h Q := (R_br (show mx_at 218 1352 = some (.if_icmp .eq 28, 3) by decide +kernel) rfl rfl).trans mx_ite
set_option maxRecDepth 20000 in
theorem i218_1355 : ex_ X d 218 1355 [v0, v1, v2, v3] [] h Q = ex_ X d 218 1356 [v0, v1, v2, v3] [.int 0] h Q := R_iconst (show mx_at 218 1355 = some (.iconst 0, 1) by decide +kernel) (by decide)
set_option maxRecDepth 20000 in
theorem i218_1356 (hx : x = 0 ∨ x = 1) : ex_ X d 218 1356 [v0, v1, v2, v3] [.int x] h Q = Q (some (.int x)) h := ex_ret (show mx_at 218 1356 = some (.ireturn, 1) by decide +kernel) (mx_retZ hx rt218)
set_option maxRecDepth 20000 in
theorem i218_1357 : ex_ X d 218 1357 [v0, .ref a, v2, v3] [] h Q = ex_ X d 218 1358 [v0, .ref a, v2, v3] [.ref a] h Q := ex_nx (show mx_at 218 1357 = some (.aload_n 1, 1) by decide +kernel) rfl
set_option maxRecDepth 20000 in
theorem i218_1357f0 : ex_ X d 218 1357 [v0, .float 1, v2, v3] [] h Q = ex_ X d 218 1358 [v0, .float 1, v2, v3] [.float 1] h Q := ex_nx (show mx_at 218 1357 = some (.aload_n 1, 1) by decide +kernel) rfl
set_option maxRecDepth 20000 in
theorem i218_1358 : ex_ X d 218 1358 [.ref a, v1, v2, v3] [w0] h Q = ex_ X d 218 1359 [.ref a, v1, v2, v3] [.ref a, w0] h Q := ex_nx (show mx_at 218 1358 = some (.aload_n 0, 1) by decide +kernel) rfl
set_option maxRecDepth 20000 in
theorem i218_1358f0 : ex_ X d 218 1358 [.float 1, v1, v2, v3] [w0] h Q = ex_ X d 218 1359 [.float 1, v1, v2, v3] [.float 1, w0] h Q := ex_nx (show mx_at 218 1358 = some (.aload_n 0, 1) by decide +kernel) rfl
set_option maxRecDepth 20000 in
theorem i218_1359 : ex_ X d 218 1359 [v0, v1, v2, .int x] [w0, w1] h Q = ex_ X d 218 1360 [v0, v1, v2, .int x] [.int x, w0, w1] h Q := ex_nx (show mx_at 218 1359 = some (.iload_n 3, 1) by decide +kernel) rfl
set_option maxRecDepth 20000 in
theorem i218_1360 : ex_ X d 218 1360 [v0, v1, v2, v3] [w0, w1, w2] h Q = ex_ X d 218 1361 [v0, v1, v2, v3] [.int 1, w0, w1, w2] h Q := R_iconst (show mx_at 218 1360 = some (.iconst 1, 1) by decide +kernel) (by decide)
set_option maxRecDepth 20000 in
theorem i218_1361 : ex_ X d 218 1361 [v0, v1, v2, v3] [.int y, .int x, w0, w1] h Q = ex_ X d 218 1362 [v0, v1, v2, v3] [.int (x + y), w0, w1] h Q := ex_nx (show mx_at 218 1361 = some (.iadd, 1) by decide +kernel) rfl
set_option maxRecDepth 20000 in
theorem i218_1362 : ex_ X d 218 1362 [v0, v1, v2, v3] [.int i, .ref a, w0] h Q = (ik_ h a i = true ∧ ex_ X d 218 1363 [v0, v1, v2, v3] [.int (ia_ h a i), w0] h Q) := R_iald (show mx_at 218 1362 = some (.iaload, 1) by decide +kernel)
set_option maxRecDepth 20000 in
theorem i218_1362f : ex_ X d 218 1362 [v0, v1, v2, v3] [.int i, .float 1, w0] h Q = (mx_in i X.1 = true ∧ ex_ X d 218 1363 [v0, v1, v2, v3] [.int (X.2 i.toNatClampNeg), w0] h Q) := R_ialdx (show mx_at 218 1362 = some (.iaload, 1) by decide +kernel) rfl
set_option maxRecDepth 20000 in
theorem i218_1363 (hc : co_ h a = some 11) : ex_ X (d + 1) 218 1363 [v0, v1, v2, v3] [.int x0, .ref a] h Q = ev_ X d 105 [.ref a, .int x0] h (fun r h' => ex_ X (d + 1) 218 1366 [v0, v1, v2, v3] (r.toList ++ []) h' Q) := R_vir (show mx_at 218 1363 = some (.invokevirtual 162, 3) by decide +kernel) (mx_clk ow218 cc21_162) (Nat.le_of_ble_eq_true rfl) rfl rfl hc rfl (Nat.le_of_ble_eq_true rfl) (Nat.le_of_ble_eq_true rfl) (by rw [ml105]; exact Nat.le_of_ble_eq_true rfl)
set_option maxRecDepth 20000 in
theorem i218_1366 : ex_ X d 218 1366 [v0, v1, .ref a, v3] [w0] h Q = ex_ X d 218 1367 [v0, v1, .ref a, v3] [.ref a, w0] h Q := ex_nx (show mx_at 218 1366 = some (.aload_n 2, 1) by decide +kernel) rfl
set_option maxRecDepth 20000 in
theorem i218_1366f0 : ex_ X d 218 1366 [v0, v1, .float 1, v3] [w0] h Q = ex_ X d 218 1367 [v0, v1, .float 1, v3] [.float 1, w0] h Q := ex_nx (show mx_at 218 1366 = some (.aload_n 2, 1) by decide +kernel) rfl
set_option maxRecDepth 20000 in
theorem i218_1367 : ex_ X d 218 1367 [.ref a, v1, v2, v3] [w0, w1] h Q = ex_ X d 218 1368 [.ref a, v1, v2, v3] [.ref a, w0, w1] h Q := ex_nx (show mx_at 218 1367 = some (.aload_n 0, 1) by decide +kernel) rfl
set_option maxRecDepth 20000 in
theorem i218_1367f0 : ex_ X d 218 1367 [.float 1, v1, v2, v3] [w0, w1] h Q = ex_ X d 218 1368 [.float 1, v1, v2, v3] [.float 1, w0, w1] h Q := ex_nx (show mx_at 218 1367 = some (.aload_n 0, 1) by decide +kernel) rfl
set_option maxRecDepth 20000 in
theorem i218_1368 : ex_ X d 218 1368 [v0, v1, v2, .int x] [w0, w1, w2] h Q = ex_ X d 218 1369 [v0, v1, v2, .int x] [.int x, w0, w1, w2] h Q := ex_nx (show mx_at 218 1368 = some (.iload_n 3, 1) by decide +kernel) rfl
set_option maxRecDepth 20000 in
theorem i218_1369 : ex_ X d 218 1369 [v0, v1, v2, v3] [w0, w1, w2, w3] h Q = ex_ X d 218 1370 [v0, v1, v2, v3] [.int 1, w0, w1, w2, w3] h Q := R_iconst (show mx_at 218 1369 = some (.iconst 1, 1) by decide +kernel) (by decide)
set_option maxRecDepth 20000 in
theorem i218_1370 : ex_ X d 218 1370 [v0, v1, v2, v3] [.int y, .int x, w0, w1, w2] h Q = ex_ X d 218 1371 [v0, v1, v2, v3] [.int (x + y), w0, w1, w2] h Q := ex_nx (show mx_at 218 1370 = some (.iadd, 1) by decide +kernel) rfl
set_option maxRecDepth 20000 in
theorem i218_1371 : ex_ X d 218 1371 [v0, v1, v2, v3] [.int i, .ref a, w0, w1] h Q = (ik_ h a i = true ∧ ex_ X d 218 1372 [v0, v1, v2, v3] [.int (ia_ h a i), w0, w1] h Q) := R_iald (show mx_at 218 1371 = some (.iaload, 1) by decide +kernel)
set_option maxRecDepth 20000 in
theorem i218_1371f : ex_ X d 218 1371 [v0, v1, v2, v3] [.int i, .float 1, w0, w1] h Q = (mx_in i X.1 = true ∧ ex_ X d 218 1372 [v0, v1, v2, v3] [.int (X.2 i.toNatClampNeg), w0, w1] h Q) := R_ialdx (show mx_at 218 1371 = some (.iaload, 1) by decide +kernel) rfl
set_option maxRecDepth 20000 in
theorem i218_1372 (hc : co_ h a = some 12) : ex_ X (d + 1) 218 1372 [v0, v1, v2, v3] [.int x0, .ref a, w0] h Q = ev_ X d 208 [.ref a, .int x0] h (fun r h' => ex_ X (d + 1) 218 1375 [v0, v1, v2, v3] (r.toList ++ [w0]) h' Q) := R_vir (show mx_at 218 1372 = some (.invokevirtual 165, 3) by decide +kernel) (mx_clk ow218 cc21_165) (Nat.le_of_ble_eq_true rfl) rfl rfl hc rfl (Nat.le_of_ble_eq_true rfl) (Nat.le_of_ble_eq_true rfl) (by rw [ml208]; exact Nat.le_of_ble_eq_true rfl)
set_option maxRecDepth 20000 in
theorem i218_1375 : ex_ X d 218 1375 [v0, v1, v2, v3] [.int y, .int x] h Q = if x = y then ex_ X d 218 1380 [v0, v1, v2, v3] [] h Q else ex_ X d 218 1378 [v0, v1, v2, v3] [] h Q := (R_br (show mx_at 218 1375 = some (.if_icmp .eq 5, 3) by decide +kernel) rfl rfl).trans mx_ite
set_option maxRecDepth 20000 in
theorem i218_1378 : ex_ X d 218 1378 [v0, v1, v2, v3] [] h Q = ex_ X d 218 1379 [v0, v1, v2, v3] [.int 0] h Q := R_iconst (show mx_at 218 1378 = some (.iconst 0, 1) by decide +kernel) (by decide)
set_option maxRecDepth 20000 in
theorem i218_1379 (hx : x = 0 ∨ x = 1) : ex_ X d 218 1379 [v0, v1, v2, v3] [.int x] h Q = Q (some (.int x)) h := ex_ret (show mx_at 218 1379 = some (.ireturn, 1) by decide +kernel) (mx_retZ hx rt218)
set_option maxRecDepth 20000 in
theorem i218_1380 : ex_ X d 218 1380 [v0, v1, v2, .int x] [] h Q = (mx_nl v2 = true ∧ ex_ X d 218 1383 [v0, v1, v2, .int (x + 6)] [] h Q) := R_iinc (n := 3) (c := 6) (show mx_at 218 1380 = some (.iinc 3 6, 3) by decide +kernel) rfl
set_option maxRecDepth 20000 in
theorem i218_1383 : ex_ X d 218 1383 [v0, v1, v2, v3] [] h Q = ex_ X d 218 18 [v0, v1, v2, v3] [] h Q := R_to (show mx_at 218 1383 = some (.goto (-1365), 3) by decide +kernel) rfl rfl
set_option maxRecDepth 20000 in
theorem i218_1386 : ex_ X d 218 1386 [v0, v1, v2, v3] [] h Q = ex_ X d 218 1387 [v0, v1, v2, v3] [.int 1] h Q := R_iconst (show mx_at 218 1386 = some (.iconst 1, 1) by decide +kernel) (by decide)
set_option maxRecDepth 20000 in
theorem i218_1387 (hx : x = 0 ∨ x = 1) : ex_ X d 218 1387 [v0, v1, v2, v3] [.int x] h Q = Q (some (.int x)) h := ex_ret (show mx_at 218 1387 = some (.ireturn, 1) by decide +kernel) (mx_retZ hx rt218)
theorem i218_e : ev_ X d 218 [.float 1] h Q = ex_ X d 218 0 [.float 1, .double 0, .double 0, .double 0] [] h Q := by rw [ev_, ml218]; rfl
end MXI
