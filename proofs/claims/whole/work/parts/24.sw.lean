theorem mx_nei {x c : Int32} (h : ¬ x = c) : x.toInt ≠ c.toInt := fun q => h (Int32.toInt_inj.mp q)
section MXI
variable {X : MXX} {d : Nat} {h : MXH} {Q : MXP} {v0 v1 v2 v3 v4 v5 v6 v7 v8 v9 v10 v11 v12 v13 v14 v15 v16 v17 v18 v19 w w0 w1 w2 w3 w4 w5 w6 w7 w8 : Value} {x y z i x0 x1 x2 x3 x4 x5 x6 : Int32} {j0 j1 j2 j3 jx jy : Int64} {a b a0 a1 a2 a3 a4 a5 a6 : Nat}

set_option maxRecDepth 20000 in
theorem i14_8s : ex_ X d 14 8 [v0, v1, v2, v3] [.int x] h Q = if x = 0 then ex_ X d 14 56 [v0, v1, v2, v3] [] h Q else if x = 1 then ex_ X d 14 61 [v0, v1, v2, v3] [] h Q else if x = 2 then ex_ X d 14 66 [v0, v1, v2, v3] [] h Q else if x = 3 then ex_ X d 14 71 [v0, v1, v2, v3] [] h Q else if x = 4 then ex_ X d 14 76 [v0, v1, v2, v3] [] h Q else if x = 5 then ex_ X d 14 83 [v0, v1, v2, v3] [] h Q else if x = 6 then ex_ X d 14 90 [v0, v1, v2, v3] [] h Q else if x = 7 then ex_ X d 14 97 [v0, v1, v2, v3] [] h Q else ex_ X d 14 117 [v0, v1, v2, v3] [] h Q := by
  by_cases e0 : x = 0
  · subst e0; rw [if_pos rfl]; exact i14_8_0
  rw [if_neg e0]
  by_cases e1 : x = 1
  · subst e1; rw [if_pos rfl]; exact i14_8_1
  rw [if_neg e1]
  by_cases e2 : x = 2
  · subst e2; rw [if_pos rfl]; exact i14_8_2
  rw [if_neg e2]
  by_cases e3 : x = 3
  · subst e3; rw [if_pos rfl]; exact i14_8_3
  rw [if_neg e3]
  by_cases e4 : x = 4
  · subst e4; rw [if_pos rfl]; exact i14_8_4
  rw [if_neg e4]
  by_cases e5 : x = 5
  · subst e5; rw [if_pos rfl]; exact i14_8_5
  rw [if_neg e5]
  by_cases e6 : x = 6
  · subst e6; rw [if_pos rfl]; exact i14_8_6
  rw [if_neg e6]
  by_cases e7 : x = 7
  · subst e7; rw [if_pos rfl]; exact i14_8_7
  rw [if_neg e7]
  have t0 : x.toInt ≠ 0 := mx_nei e0
  have t1 : x.toInt ≠ 1 := mx_nei e1
  have t2 : x.toInt ≠ 2 := mx_nei e2
  have t3 : x.toInt ≠ 3 := mx_nei e3
  have t4 : x.toInt ≠ 4 := mx_nei e4
  have t5 : x.toInt ≠ 5 := mx_nei e5
  have t6 : x.toInt ≠ 6 := mx_nei e6
  have t7 : x.toInt ≠ 7 := mx_nei e7
  exact i14_8_d (by omega)
set_option maxRecDepth 20000 in
theorem i60_76s : ex_ X d 60 76 [v0, v1, v2, v3, v4, v5, v6, v7] [.int x] h Q = if x = 33 then ex_ X d 60 385 [v0, v1, v2, v3, v4, v5, v6, v7] [] h Q else if x = 37 then ex_ X d 60 361 [v0, v1, v2, v3, v4, v5, v6, v7] [] h Q else if x = 38 then ex_ X d 60 201 [v0, v1, v2, v3, v4, v5, v6, v7] [] h Q else if x = 42 then ex_ X d 60 322 [v0, v1, v2, v3, v4, v5, v6, v7] [] h Q else if x = 43 then ex_ X d 60 292 [v0, v1, v2, v3, v4, v5, v6, v7] [] h Q else if x = 45 then ex_ X d 60 307 [v0, v1, v2, v3, v4, v5, v6, v7] [] h Q else if x = 47 then ex_ X d 60 337 [v0, v1, v2, v3, v4, v5, v6, v7] [] h Q else if x = 60 then ex_ X d 60 226 [v0, v1, v2, v3, v4, v5, v6, v7] [] h Q else if x = 61 then ex_ X d 60 248 [v0, v1, v2, v3, v4, v5, v6, v7] [] h Q else if x = 62 then ex_ X d 60 270 [v0, v1, v2, v3, v4, v5, v6, v7] [] h Q else if x = 124 then ex_ X d 60 176 [v0, v1, v2, v3, v4, v5, v6, v7] [] h Q else ex_ X d 60 405 [v0, v1, v2, v3, v4, v5, v6, v7] [] h Q := by
  by_cases e33 : x = 33
  · subst e33; rw [if_pos rfl]; exact i60_76_33
  rw [if_neg e33]
  by_cases e37 : x = 37
  · subst e37; rw [if_pos rfl]; exact i60_76_37
  rw [if_neg e37]
  by_cases e38 : x = 38
  · subst e38; rw [if_pos rfl]; exact i60_76_38
  rw [if_neg e38]
  by_cases e42 : x = 42
  · subst e42; rw [if_pos rfl]; exact i60_76_42
  rw [if_neg e42]
  by_cases e43 : x = 43
  · subst e43; rw [if_pos rfl]; exact i60_76_43
  rw [if_neg e43]
  by_cases e45 : x = 45
  · subst e45; rw [if_pos rfl]; exact i60_76_45
  rw [if_neg e45]
  by_cases e47 : x = 47
  · subst e47; rw [if_pos rfl]; exact i60_76_47
  rw [if_neg e47]
  by_cases e60 : x = 60
  · subst e60; rw [if_pos rfl]; exact i60_76_60
  rw [if_neg e60]
  by_cases e61 : x = 61
  · subst e61; rw [if_pos rfl]; exact i60_76_61
  rw [if_neg e61]
  by_cases e62 : x = 62
  · subst e62; rw [if_pos rfl]; exact i60_76_62
  rw [if_neg e62]
  by_cases e124 : x = 124
  · subst e124; rw [if_pos rfl]; exact i60_76_124
  rw [if_neg e124]
  have t33 : 33 ≠ x.toInt := (mx_nei e33).symm
  have t37 : 37 ≠ x.toInt := (mx_nei e37).symm
  have t38 : 38 ≠ x.toInt := (mx_nei e38).symm
  have t42 : 42 ≠ x.toInt := (mx_nei e42).symm
  have t43 : 43 ≠ x.toInt := (mx_nei e43).symm
  have t45 : 45 ≠ x.toInt := (mx_nei e45).symm
  have t47 : 47 ≠ x.toInt := (mx_nei e47).symm
  have t60 : 60 ≠ x.toInt := (mx_nei e60).symm
  have t61 : 61 ≠ x.toInt := (mx_nei e61).symm
  have t62 : 62 ≠ x.toInt := (mx_nei e62).symm
  have t124 : 124 ≠ x.toInt := (mx_nei e124).symm
  exact i60_76_d ⟨t33, t37, t38, t42, t43, t45, t47, t60, t61, t62, t124⟩
set_option maxRecDepth 20000 in
theorem i63_1s : ex_ X d 63 1 [v0] [.int x] h Q = if x = 37 then ex_ X d 63 100 [v0] [] h Q else if x = 38 then ex_ X d 63 94 [v0] [] h Q else if x = 42 then ex_ X d 63 100 [v0] [] h Q else if x = 43 then ex_ X d 63 98 [v0] [] h Q else if x = 45 then ex_ X d 63 98 [v0] [] h Q else if x = 47 then ex_ X d 63 100 [v0] [] h Q else if x = 60 then ex_ X d 63 96 [v0] [] h Q else if x = 61 then ex_ X d 63 96 [v0] [] h Q else if x = 62 then ex_ X d 63 96 [v0] [] h Q else if x = 124 then ex_ X d 63 92 [v0] [] h Q else ex_ X d 63 102 [v0] [] h Q := by
  by_cases e37 : x = 37
  · subst e37; rw [if_pos rfl]; exact i63_1_37
  rw [if_neg e37]
  by_cases e38 : x = 38
  · subst e38; rw [if_pos rfl]; exact i63_1_38
  rw [if_neg e38]
  by_cases e42 : x = 42
  · subst e42; rw [if_pos rfl]; exact i63_1_42
  rw [if_neg e42]
  by_cases e43 : x = 43
  · subst e43; rw [if_pos rfl]; exact i63_1_43
  rw [if_neg e43]
  by_cases e45 : x = 45
  · subst e45; rw [if_pos rfl]; exact i63_1_45
  rw [if_neg e45]
  by_cases e47 : x = 47
  · subst e47; rw [if_pos rfl]; exact i63_1_47
  rw [if_neg e47]
  by_cases e60 : x = 60
  · subst e60; rw [if_pos rfl]; exact i63_1_60
  rw [if_neg e60]
  by_cases e61 : x = 61
  · subst e61; rw [if_pos rfl]; exact i63_1_61
  rw [if_neg e61]
  by_cases e62 : x = 62
  · subst e62; rw [if_pos rfl]; exact i63_1_62
  rw [if_neg e62]
  by_cases e124 : x = 124
  · subst e124; rw [if_pos rfl]; exact i63_1_124
  rw [if_neg e124]
  have t37 : 37 ≠ x.toInt := (mx_nei e37).symm
  have t38 : 38 ≠ x.toInt := (mx_nei e38).symm
  have t42 : 42 ≠ x.toInt := (mx_nei e42).symm
  have t43 : 43 ≠ x.toInt := (mx_nei e43).symm
  have t45 : 45 ≠ x.toInt := (mx_nei e45).symm
  have t47 : 47 ≠ x.toInt := (mx_nei e47).symm
  have t60 : 60 ≠ x.toInt := (mx_nei e60).symm
  have t61 : 61 ≠ x.toInt := (mx_nei e61).symm
  have t62 : 62 ≠ x.toInt := (mx_nei e62).symm
  have t124 : 124 ≠ x.toInt := (mx_nei e124).symm
  exact i63_1_d ⟨t37, t38, t42, t43, t45, t47, t60, t61, t62, t124⟩
set_option maxRecDepth 20000 in
theorem i76_15s : ex_ X d 76 15 [v0, v1, v2] [.int x] h Q = if x = 0 then ex_ X d 76 48 [v0, v1, v2] [] h Q else if x = 1 then ex_ X d 76 58 [v0, v1, v2] [] h Q else if x = 2 then ex_ X d 76 68 [v0, v1, v2] [] h Q else if x = 3 then ex_ X d 76 78 [v0, v1, v2] [] h Q else if x = 4 then ex_ X d 76 88 [v0, v1, v2] [] h Q else ex_ X d 76 97 [v0, v1, v2] [] h Q := by
  by_cases e0 : x = 0
  · subst e0; rw [if_pos rfl]; exact i76_15_0
  rw [if_neg e0]
  by_cases e1 : x = 1
  · subst e1; rw [if_pos rfl]; exact i76_15_1
  rw [if_neg e1]
  by_cases e2 : x = 2
  · subst e2; rw [if_pos rfl]; exact i76_15_2
  rw [if_neg e2]
  by_cases e3 : x = 3
  · subst e3; rw [if_pos rfl]; exact i76_15_3
  rw [if_neg e3]
  by_cases e4 : x = 4
  · subst e4; rw [if_pos rfl]; exact i76_15_4
  rw [if_neg e4]
  have t0 : x.toInt ≠ 0 := mx_nei e0
  have t1 : x.toInt ≠ 1 := mx_nei e1
  have t2 : x.toInt ≠ 2 := mx_nei e2
  have t3 : x.toInt ≠ 3 := mx_nei e3
  have t4 : x.toInt ≠ 4 := mx_nei e4
  exact i76_15_d (by omega)
set_option maxRecDepth 20000 in
theorem i95_42s : ex_ X d 95 42 [v0, v1, v2, v3, v4] [.int x] h Q = if x = 0 then ex_ X d 95 68 [v0, v1, v2, v3, v4] [] h Q else if x = 1 then ex_ X d 95 79 [v0, v1, v2, v3, v4] [] h Q else if x = 2 then ex_ X d 95 90 [v0, v1, v2, v3, v4] [] h Q else ex_ X d 95 101 [v0, v1, v2, v3, v4] [] h Q := by
  by_cases e0 : x = 0
  · subst e0; rw [if_pos rfl]; exact i95_42_0
  rw [if_neg e0]
  by_cases e1 : x = 1
  · subst e1; rw [if_pos rfl]; exact i95_42_1
  rw [if_neg e1]
  by_cases e2 : x = 2
  · subst e2; rw [if_pos rfl]; exact i95_42_2
  rw [if_neg e2]
  have t0 : x.toInt ≠ 0 := mx_nei e0
  have t1 : x.toInt ≠ 1 := mx_nei e1
  have t2 : x.toInt ≠ 2 := mx_nei e2
  exact i95_42_d (by omega)
set_option maxRecDepth 20000 in
theorem i104_1s : ex_ X d 104 1 [v0, v1] [.int x] h Q = if x = 0 then ex_ X d 104 52 [v0, v1] [] h Q else if x = 1 then ex_ X d 104 60 [v0, v1] [] h Q else if x = 2 then ex_ X d 104 68 [v0, v1] [] h Q else if x = 3 then ex_ X d 104 76 [v0, v1] [] h Q else if x = 4 then ex_ X d 104 84 [v0, v1] [] h Q else if x = 5 then ex_ X d 104 92 [v0, v1] [] h Q else if x = 6 then ex_ X d 104 100 [v0, v1] [] h Q else if x = 7 then ex_ X d 104 108 [v0, v1] [] h Q else if x = 8 then ex_ X d 104 116 [v0, v1] [] h Q else ex_ X d 104 121 [v0, v1] [] h Q := by
  by_cases e0 : x = 0
  · subst e0; rw [if_pos rfl]; exact i104_1_0
  rw [if_neg e0]
  by_cases e1 : x = 1
  · subst e1; rw [if_pos rfl]; exact i104_1_1
  rw [if_neg e1]
  by_cases e2 : x = 2
  · subst e2; rw [if_pos rfl]; exact i104_1_2
  rw [if_neg e2]
  by_cases e3 : x = 3
  · subst e3; rw [if_pos rfl]; exact i104_1_3
  rw [if_neg e3]
  by_cases e4 : x = 4
  · subst e4; rw [if_pos rfl]; exact i104_1_4
  rw [if_neg e4]
  by_cases e5 : x = 5
  · subst e5; rw [if_pos rfl]; exact i104_1_5
  rw [if_neg e5]
  by_cases e6 : x = 6
  · subst e6; rw [if_pos rfl]; exact i104_1_6
  rw [if_neg e6]
  by_cases e7 : x = 7
  · subst e7; rw [if_pos rfl]; exact i104_1_7
  rw [if_neg e7]
  by_cases e8 : x = 8
  · subst e8; rw [if_pos rfl]; exact i104_1_8
  rw [if_neg e8]
  have t0 : x.toInt ≠ 0 := mx_nei e0
  have t1 : x.toInt ≠ 1 := mx_nei e1
  have t2 : x.toInt ≠ 2 := mx_nei e2
  have t3 : x.toInt ≠ 3 := mx_nei e3
  have t4 : x.toInt ≠ 4 := mx_nei e4
  have t5 : x.toInt ≠ 5 := mx_nei e5
  have t6 : x.toInt ≠ 6 := mx_nei e6
  have t7 : x.toInt ≠ 7 := mx_nei e7
  have t8 : x.toInt ≠ 8 := mx_nei e8
  exact i104_1_d (by omega)
set_option maxRecDepth 20000 in
theorem i115_1s : ex_ X d 115 1 [v0, v1] [.int x] h Q = if x = 0 then ex_ X d 115 28 [v0, v1] [] h Q else if x = 1 then ex_ X d 115 36 [v0, v1] [] h Q else if x = 2 then ex_ X d 115 47 [v0, v1] [] h Q else ex_ X d 115 56 [v0, v1] [] h Q := by
  by_cases e0 : x = 0
  · subst e0; rw [if_pos rfl]; exact i115_1_0
  rw [if_neg e0]
  by_cases e1 : x = 1
  · subst e1; rw [if_pos rfl]; exact i115_1_1
  rw [if_neg e1]
  by_cases e2 : x = 2
  · subst e2; rw [if_pos rfl]; exact i115_1_2
  rw [if_neg e2]
  have t0 : x.toInt ≠ 0 := mx_nei e0
  have t1 : x.toInt ≠ 1 := mx_nei e1
  have t2 : x.toInt ≠ 2 := mx_nei e2
  exact i115_1_d (by omega)
set_option maxRecDepth 20000 in
theorem i116_1s : ex_ X d 116 1 [v0, v1] [.int x] h Q = if x = 0 then ex_ X d 116 36 [v0, v1] [] h Q else if x = 1 then ex_ X d 116 43 [v0, v1] [] h Q else if x = 2 then ex_ X d 116 43 [v0, v1] [] h Q else if x = 3 then ex_ X d 116 43 [v0, v1] [] h Q else if x = 4 then ex_ X d 116 51 [v0, v1] [] h Q else ex_ X d 116 60 [v0, v1] [] h Q := by
  by_cases e0 : x = 0
  · subst e0; rw [if_pos rfl]; exact i116_1_0
  rw [if_neg e0]
  by_cases e1 : x = 1
  · subst e1; rw [if_pos rfl]; exact i116_1_1
  rw [if_neg e1]
  by_cases e2 : x = 2
  · subst e2; rw [if_pos rfl]; exact i116_1_2
  rw [if_neg e2]
  by_cases e3 : x = 3
  · subst e3; rw [if_pos rfl]; exact i116_1_3
  rw [if_neg e3]
  by_cases e4 : x = 4
  · subst e4; rw [if_pos rfl]; exact i116_1_4
  rw [if_neg e4]
  have t0 : x.toInt ≠ 0 := mx_nei e0
  have t1 : x.toInt ≠ 1 := mx_nei e1
  have t2 : x.toInt ≠ 2 := mx_nei e2
  have t3 : x.toInt ≠ 3 := mx_nei e3
  have t4 : x.toInt ≠ 4 := mx_nei e4
  exact i116_1_d (by omega)
set_option maxRecDepth 20000 in
theorem i117_1s : ex_ X d 117 1 [v0, v1, v2, v3, v4] [.int x] h Q = if x = 1 then ex_ X d 117 40 [v0, v1, v2, v3, v4] [] h Q else if x = 2 then ex_ X d 117 54 [v0, v1, v2, v3, v4] [] h Q else if x = 3 then ex_ X d 117 68 [v0, v1, v2, v3, v4] [] h Q else if x = 4 then ex_ X d 117 82 [v0, v1, v2, v3, v4] [] h Q else if x = 5 then ex_ X d 117 96 [v0, v1, v2, v3, v4] [] h Q else if x = 6 then ex_ X d 117 110 [v0, v1, v2, v3, v4] [] h Q else ex_ X d 117 124 [v0, v1, v2, v3, v4] [] h Q := by
  by_cases e1 : x = 1
  · subst e1; rw [if_pos rfl]; exact i117_1_1
  rw [if_neg e1]
  by_cases e2 : x = 2
  · subst e2; rw [if_pos rfl]; exact i117_1_2
  rw [if_neg e2]
  by_cases e3 : x = 3
  · subst e3; rw [if_pos rfl]; exact i117_1_3
  rw [if_neg e3]
  by_cases e4 : x = 4
  · subst e4; rw [if_pos rfl]; exact i117_1_4
  rw [if_neg e4]
  by_cases e5 : x = 5
  · subst e5; rw [if_pos rfl]; exact i117_1_5
  rw [if_neg e5]
  by_cases e6 : x = 6
  · subst e6; rw [if_pos rfl]; exact i117_1_6
  rw [if_neg e6]
  have t1 : x.toInt ≠ 1 := mx_nei e1
  have t2 : x.toInt ≠ 2 := mx_nei e2
  have t3 : x.toInt ≠ 3 := mx_nei e3
  have t4 : x.toInt ≠ 4 := mx_nei e4
  have t5 : x.toInt ≠ 5 := mx_nei e5
  have t6 : x.toInt ≠ 6 := mx_nei e6
  exact i117_1_d (by omega)
set_option maxRecDepth 20000 in
theorem i118_1s : ex_ X d 118 1 [v0, v1] [.int x] h Q = if x = 1 then ex_ X d 118 40 [v0, v1] [] h Q else if x = 2 then ex_ X d 118 45 [v0, v1] [] h Q else if x = 3 then ex_ X d 118 50 [v0, v1] [] h Q else if x = 4 then ex_ X d 118 55 [v0, v1] [] h Q else if x = 5 then ex_ X d 118 60 [v0, v1] [] h Q else if x = 6 then ex_ X d 118 65 [v0, v1] [] h Q else ex_ X d 118 70 [v0, v1] [] h Q := by
  by_cases e1 : x = 1
  · subst e1; rw [if_pos rfl]; exact i118_1_1
  rw [if_neg e1]
  by_cases e2 : x = 2
  · subst e2; rw [if_pos rfl]; exact i118_1_2
  rw [if_neg e2]
  by_cases e3 : x = 3
  · subst e3; rw [if_pos rfl]; exact i118_1_3
  rw [if_neg e3]
  by_cases e4 : x = 4
  · subst e4; rw [if_pos rfl]; exact i118_1_4
  rw [if_neg e4]
  by_cases e5 : x = 5
  · subst e5; rw [if_pos rfl]; exact i118_1_5
  rw [if_neg e5]
  by_cases e6 : x = 6
  · subst e6; rw [if_pos rfl]; exact i118_1_6
  rw [if_neg e6]
  have t1 : x.toInt ≠ 1 := mx_nei e1
  have t2 : x.toInt ≠ 2 := mx_nei e2
  have t3 : x.toInt ≠ 3 := mx_nei e3
  have t4 : x.toInt ≠ 4 := mx_nei e4
  have t5 : x.toInt ≠ 5 := mx_nei e5
  have t6 : x.toInt ≠ 6 := mx_nei e6
  exact i118_1_d (by omega)
set_option maxRecDepth 20000 in
theorem i144_1s : ex_ X d 144 1 [v0, v1, v2] [.int x] h Q = if x = 38 then ex_ X d 144 98 [v0, v1, v2] [] h Q else if x = 42 then ex_ X d 144 153 [v0, v1, v2] [] h Q else if x = 43 then ex_ X d 144 145 [v0, v1, v2] [] h Q else if x = 45 then ex_ X d 144 149 [v0, v1, v2] [] h Q else if x = 47 then ex_ X d 144 157 [v0, v1, v2] [] h Q else if x = 60 then ex_ X d 144 112 [v0, v1, v2] [] h Q else if x = 61 then ex_ X d 144 123 [v0, v1, v2] [] h Q else if x = 62 then ex_ X d 144 134 [v0, v1, v2] [] h Q else if x = 124 then ex_ X d 144 84 [v0, v1, v2] [] h Q else ex_ X d 144 169 [v0, v1, v2] [] h Q := by
  by_cases e38 : x = 38
  · subst e38; rw [if_pos rfl]; exact i144_1_38
  rw [if_neg e38]
  by_cases e42 : x = 42
  · subst e42; rw [if_pos rfl]; exact i144_1_42
  rw [if_neg e42]
  by_cases e43 : x = 43
  · subst e43; rw [if_pos rfl]; exact i144_1_43
  rw [if_neg e43]
  by_cases e45 : x = 45
  · subst e45; rw [if_pos rfl]; exact i144_1_45
  rw [if_neg e45]
  by_cases e47 : x = 47
  · subst e47; rw [if_pos rfl]; exact i144_1_47
  rw [if_neg e47]
  by_cases e60 : x = 60
  · subst e60; rw [if_pos rfl]; exact i144_1_60
  rw [if_neg e60]
  by_cases e61 : x = 61
  · subst e61; rw [if_pos rfl]; exact i144_1_61
  rw [if_neg e61]
  by_cases e62 : x = 62
  · subst e62; rw [if_pos rfl]; exact i144_1_62
  rw [if_neg e62]
  by_cases e124 : x = 124
  · subst e124; rw [if_pos rfl]; exact i144_1_124
  rw [if_neg e124]
  have t38 : 38 ≠ x.toInt := (mx_nei e38).symm
  have t42 : 42 ≠ x.toInt := (mx_nei e42).symm
  have t43 : 43 ≠ x.toInt := (mx_nei e43).symm
  have t45 : 45 ≠ x.toInt := (mx_nei e45).symm
  have t47 : 47 ≠ x.toInt := (mx_nei e47).symm
  have t60 : 60 ≠ x.toInt := (mx_nei e60).symm
  have t61 : 61 ≠ x.toInt := (mx_nei e61).symm
  have t62 : 62 ≠ x.toInt := (mx_nei e62).symm
  have t124 : 124 ≠ x.toInt := (mx_nei e124).symm
  exact i144_1_d ⟨t38, t42, t43, t45, t47, t60, t61, t62, t124⟩
set_option maxRecDepth 20000 in
theorem i151_83s : ex_ X d 151 83 [v0, v1, v2, v3, v4, v5, v6, v7, v8] [.int x] h Q = if x = 1 then ex_ X d 151 120 [v0, v1, v2, v3, v4, v5, v6, v7, v8] [] h Q else if x = 2 then ex_ X d 151 123 [v0, v1, v2, v3, v4, v5, v6, v7, v8] [] h Q else if x = 3 then ex_ X d 151 128 [v0, v1, v2, v3, v4, v5, v6, v7, v8] [] h Q else if x = 4 then ex_ X d 151 149 [v0, v1, v2, v3, v4, v5, v6, v7, v8] [] h Q else if x = 5 then ex_ X d 151 152 [v0, v1, v2, v3, v4, v5, v6, v7, v8] [] h Q else if x = 6 then ex_ X d 151 167 [v0, v1, v2, v3, v4, v5, v6, v7, v8] [] h Q else ex_ X d 151 183 [v0, v1, v2, v3, v4, v5, v6, v7, v8] [] h Q := by
  by_cases e1 : x = 1
  · subst e1; rw [if_pos rfl]; exact i151_83_1
  rw [if_neg e1]
  by_cases e2 : x = 2
  · subst e2; rw [if_pos rfl]; exact i151_83_2
  rw [if_neg e2]
  by_cases e3 : x = 3
  · subst e3; rw [if_pos rfl]; exact i151_83_3
  rw [if_neg e3]
  by_cases e4 : x = 4
  · subst e4; rw [if_pos rfl]; exact i151_83_4
  rw [if_neg e4]
  by_cases e5 : x = 5
  · subst e5; rw [if_pos rfl]; exact i151_83_5
  rw [if_neg e5]
  by_cases e6 : x = 6
  · subst e6; rw [if_pos rfl]; exact i151_83_6
  rw [if_neg e6]
  have t1 : x.toInt ≠ 1 := mx_nei e1
  have t2 : x.toInt ≠ 2 := mx_nei e2
  have t3 : x.toInt ≠ 3 := mx_nei e3
  have t4 : x.toInt ≠ 4 := mx_nei e4
  have t5 : x.toInt ≠ 5 := mx_nei e5
  have t6 : x.toInt ≠ 6 := mx_nei e6
  exact i151_83_d (by omega)
set_option maxRecDepth 20000 in
theorem i192_1s : ex_ X d 192 1 [v0, v1, v2] [.int x] h Q = if x = 0 then ex_ X d 192 32 [v0, v1, v2] [] h Q else if x = 1 then ex_ X d 192 81 [v0, v1, v2] [] h Q else if x = 2 then ex_ X d 192 45 [v0, v1, v2] [] h Q else if x = 3 then ex_ X d 192 63 [v0, v1, v2] [] h Q else ex_ X d 192 81 [v0, v1, v2] [] h Q := by
  by_cases e0 : x = 0
  · subst e0; rw [if_pos rfl]; exact i192_1_0
  rw [if_neg e0]
  by_cases e1 : x = 1
  · subst e1; rw [if_pos rfl]; exact i192_1_1
  rw [if_neg e1]
  by_cases e2 : x = 2
  · subst e2; rw [if_pos rfl]; exact i192_1_2
  rw [if_neg e2]
  by_cases e3 : x = 3
  · subst e3; rw [if_pos rfl]; exact i192_1_3
  rw [if_neg e3]
  have t0 : x.toInt ≠ 0 := mx_nei e0
  have t1 : x.toInt ≠ 1 := mx_nei e1
  have t2 : x.toInt ≠ 2 := mx_nei e2
  have t3 : x.toInt ≠ 3 := mx_nei e3
  exact i192_1_d (by omega)
set_option maxRecDepth 20000 in
theorem i193_1s : ex_ X d 193 1 [v0, v1, v2, v3] [.int x] h Q = if x = 0 then ex_ X d 193 36 [v0, v1, v2, v3] [] h Q else if x = 1 then ex_ X d 193 54 [v0, v1, v2, v3] [] h Q else if x = 6 then ex_ X d 193 82 [v0, v1, v2, v3] [] h Q else ex_ X d 193 112 [v0, v1, v2, v3] [] h Q := by
  by_cases e0 : x = 0
  · subst e0; rw [if_pos rfl]; exact i193_1_0
  rw [if_neg e0]
  by_cases e1 : x = 1
  · subst e1; rw [if_pos rfl]; exact i193_1_1
  rw [if_neg e1]
  by_cases e6 : x = 6
  · subst e6; rw [if_pos rfl]; exact i193_1_6
  rw [if_neg e6]
  have t0 : 0 ≠ x.toInt := (mx_nei e0).symm
  have t1 : 1 ≠ x.toInt := (mx_nei e1).symm
  have t6 : 6 ≠ x.toInt := (mx_nei e6).symm
  exact i193_1_d ⟨t0, t1, t6⟩
set_option maxRecDepth 20000 in
theorem i194_1s : ex_ X d 194 1 [v0, v1, v2] [.int x] h Q = if x = 0 then ex_ X d 194 36 [v0, v1, v2] [] h Q else if x = 3 then ex_ X d 194 57 [v0, v1, v2] [] h Q else if x = 5 then ex_ X d 194 74 [v0, v1, v2] [] h Q else ex_ X d 194 95 [v0, v1, v2] [] h Q := by
  by_cases e0 : x = 0
  · subst e0; rw [if_pos rfl]; exact i194_1_0
  rw [if_neg e0]
  by_cases e3 : x = 3
  · subst e3; rw [if_pos rfl]; exact i194_1_3
  rw [if_neg e3]
  by_cases e5 : x = 5
  · subst e5; rw [if_pos rfl]; exact i194_1_5
  rw [if_neg e5]
  have t0 : 0 ≠ x.toInt := (mx_nei e0).symm
  have t3 : 3 ≠ x.toInt := (mx_nei e3).symm
  have t5 : 5 ≠ x.toInt := (mx_nei e5).symm
  exact i194_1_d ⟨t0, t3, t5⟩
set_option maxRecDepth 20000 in
theorem i195_1s : ex_ X d 195 1 [v0, v1, v2, v3] [.int x] h Q = if x = 0 then ex_ X d 195 36 [v0, v1, v2, v3] [] h Q else if x = 4 then ex_ X d 195 64 [v0, v1, v2, v3] [] h Q else if x = 6 then ex_ X d 195 92 [v0, v1, v2, v3] [] h Q else ex_ X d 195 121 [v0, v1, v2, v3] [] h Q := by
  by_cases e0 : x = 0
  · subst e0; rw [if_pos rfl]; exact i195_1_0
  rw [if_neg e0]
  by_cases e4 : x = 4
  · subst e4; rw [if_pos rfl]; exact i195_1_4
  rw [if_neg e4]
  by_cases e6 : x = 6
  · subst e6; rw [if_pos rfl]; exact i195_1_6
  rw [if_neg e6]
  have t0 : 0 ≠ x.toInt := (mx_nei e0).symm
  have t4 : 4 ≠ x.toInt := (mx_nei e4).symm
  have t6 : 6 ≠ x.toInt := (mx_nei e6).symm
  exact i195_1_d ⟨t0, t4, t6⟩
set_option maxRecDepth 20000 in
theorem i207_1s : ex_ X d 207 1 [v0, v1] [.int x] h Q = if x = 0 then ex_ X d 207 52 [v0, v1] [] h Q else if x = 1 then ex_ X d 207 59 [v0, v1] [] h Q else if x = 2 then ex_ X d 207 66 [v0, v1] [] h Q else if x = 3 then ex_ X d 207 73 [v0, v1] [] h Q else if x = 4 then ex_ X d 207 80 [v0, v1] [] h Q else if x = 5 then ex_ X d 207 85 [v0, v1] [] h Q else if x = 6 then ex_ X d 207 93 [v0, v1] [] h Q else if x = 7 then ex_ X d 207 101 [v0, v1] [] h Q else if x = 8 then ex_ X d 207 106 [v0, v1] [] h Q else ex_ X d 207 114 [v0, v1] [] h Q := by
  by_cases e0 : x = 0
  · subst e0; rw [if_pos rfl]; exact i207_1_0
  rw [if_neg e0]
  by_cases e1 : x = 1
  · subst e1; rw [if_pos rfl]; exact i207_1_1
  rw [if_neg e1]
  by_cases e2 : x = 2
  · subst e2; rw [if_pos rfl]; exact i207_1_2
  rw [if_neg e2]
  by_cases e3 : x = 3
  · subst e3; rw [if_pos rfl]; exact i207_1_3
  rw [if_neg e3]
  by_cases e4 : x = 4
  · subst e4; rw [if_pos rfl]; exact i207_1_4
  rw [if_neg e4]
  by_cases e5 : x = 5
  · subst e5; rw [if_pos rfl]; exact i207_1_5
  rw [if_neg e5]
  by_cases e6 : x = 6
  · subst e6; rw [if_pos rfl]; exact i207_1_6
  rw [if_neg e6]
  by_cases e7 : x = 7
  · subst e7; rw [if_pos rfl]; exact i207_1_7
  rw [if_neg e7]
  by_cases e8 : x = 8
  · subst e8; rw [if_pos rfl]; exact i207_1_8
  rw [if_neg e8]
  have t0 : x.toInt ≠ 0 := mx_nei e0
  have t1 : x.toInt ≠ 1 := mx_nei e1
  have t2 : x.toInt ≠ 2 := mx_nei e2
  have t3 : x.toInt ≠ 3 := mx_nei e3
  have t4 : x.toInt ≠ 4 := mx_nei e4
  have t5 : x.toInt ≠ 5 := mx_nei e5
  have t6 : x.toInt ≠ 6 := mx_nei e6
  have t7 : x.toInt ≠ 7 := mx_nei e7
  have t8 : x.toInt ≠ 8 := mx_nei e8
  exact i207_1_d (by omega)
set_option maxRecDepth 20000 in
theorem i218_33s : ex_ X d 218 33 [v0, v1, v2, v3] [.int x] h Q = if x = 0 then ex_ X d 218 192 [v0, v1, v2, v3] [] h Q else if x = 1 then ex_ X d 218 235 [v0, v1, v2, v3] [] h Q else if x = 2 then ex_ X d 218 268 [v0, v1, v2, v3] [] h Q else if x = 3 then ex_ X d 218 311 [v0, v1, v2, v3] [] h Q else if x = 4 then ex_ X d 218 344 [v0, v1, v2, v3] [] h Q else if x = 5 then ex_ X d 218 377 [v0, v1, v2, v3] [] h Q else if x = 6 then ex_ X d 218 420 [v0, v1, v2, v3] [] h Q else if x = 7 then ex_ X d 218 453 [v0, v1, v2, v3] [] h Q else if x = 8 then ex_ X d 218 476 [v0, v1, v2, v3] [] h Q else if x = 9 then ex_ X d 218 509 [v0, v1, v2, v3] [] h Q else if x = 10 then ex_ X d 218 572 [v0, v1, v2, v3] [] h Q else if x = 11 then ex_ X d 218 595 [v0, v1, v2, v3] [] h Q else if x = 12 then ex_ X d 218 658 [v0, v1, v2, v3] [] h Q else if x = 13 then ex_ X d 218 681 [v0, v1, v2, v3] [] h Q else if x = 14 then ex_ X d 218 704 [v0, v1, v2, v3] [] h Q else if x = 15 then ex_ X d 218 747 [v0, v1, v2, v3] [] h Q else if x = 16 then ex_ X d 218 780 [v0, v1, v2, v3] [] h Q else if x = 17 then ex_ X d 218 803 [v0, v1, v2, v3] [] h Q else if x = 18 then ex_ X d 218 826 [v0, v1, v2, v3] [] h Q else if x = 19 then ex_ X d 218 859 [v0, v1, v2, v3] [] h Q else if x = 20 then ex_ X d 218 892 [v0, v1, v2, v3] [] h Q else if x = 21 then ex_ X d 218 925 [v0, v1, v2, v3] [] h Q else if x = 22 then ex_ X d 218 948 [v0, v1, v2, v3] [] h Q else if x = 23 then ex_ X d 218 1001 [v0, v1, v2, v3] [] h Q else if x = 24 then ex_ X d 218 1024 [v0, v1, v2, v3] [] h Q else if x = 25 then ex_ X d 218 1047 [v0, v1, v2, v3] [] h Q else if x = 26 then ex_ X d 218 1090 [v0, v1, v2, v3] [] h Q else if x = 27 then ex_ X d 218 1113 [v0, v1, v2, v3] [] h Q else if x = 28 then ex_ X d 218 1156 [v0, v1, v2, v3] [] h Q else if x = 29 then ex_ X d 218 1199 [v0, v1, v2, v3] [] h Q else if x = 30 then ex_ X d 218 1262 [v0, v1, v2, v3] [] h Q else if x = 31 then ex_ X d 218 1275 [v0, v1, v2, v3] [] h Q else if x = 32 then ex_ X d 218 1288 [v0, v1, v2, v3] [] h Q else if x = 33 then ex_ X d 218 1311 [v0, v1, v2, v3] [] h Q else if x = 34 then ex_ X d 218 1334 [v0, v1, v2, v3] [] h Q else if x = 35 then ex_ X d 218 1357 [v0, v1, v2, v3] [] h Q else ex_ X d 218 1380 [v0, v1, v2, v3] [] h Q := by
  by_cases e0 : x = 0
  · subst e0; rw [if_pos rfl]; exact i218_33_0
  rw [if_neg e0]
  by_cases e1 : x = 1
  · subst e1; rw [if_pos rfl]; exact i218_33_1
  rw [if_neg e1]
  by_cases e2 : x = 2
  · subst e2; rw [if_pos rfl]; exact i218_33_2
  rw [if_neg e2]
  by_cases e3 : x = 3
  · subst e3; rw [if_pos rfl]; exact i218_33_3
  rw [if_neg e3]
  by_cases e4 : x = 4
  · subst e4; rw [if_pos rfl]; exact i218_33_4
  rw [if_neg e4]
  by_cases e5 : x = 5
  · subst e5; rw [if_pos rfl]; exact i218_33_5
  rw [if_neg e5]
  by_cases e6 : x = 6
  · subst e6; rw [if_pos rfl]; exact i218_33_6
  rw [if_neg e6]
  by_cases e7 : x = 7
  · subst e7; rw [if_pos rfl]; exact i218_33_7
  rw [if_neg e7]
  by_cases e8 : x = 8
  · subst e8; rw [if_pos rfl]; exact i218_33_8
  rw [if_neg e8]
  by_cases e9 : x = 9
  · subst e9; rw [if_pos rfl]; exact i218_33_9
  rw [if_neg e9]
  by_cases e10 : x = 10
  · subst e10; rw [if_pos rfl]; exact i218_33_10
  rw [if_neg e10]
  by_cases e11 : x = 11
  · subst e11; rw [if_pos rfl]; exact i218_33_11
  rw [if_neg e11]
  by_cases e12 : x = 12
  · subst e12; rw [if_pos rfl]; exact i218_33_12
  rw [if_neg e12]
  by_cases e13 : x = 13
  · subst e13; rw [if_pos rfl]; exact i218_33_13
  rw [if_neg e13]
  by_cases e14 : x = 14
  · subst e14; rw [if_pos rfl]; exact i218_33_14
  rw [if_neg e14]
  by_cases e15 : x = 15
  · subst e15; rw [if_pos rfl]; exact i218_33_15
  rw [if_neg e15]
  by_cases e16 : x = 16
  · subst e16; rw [if_pos rfl]; exact i218_33_16
  rw [if_neg e16]
  by_cases e17 : x = 17
  · subst e17; rw [if_pos rfl]; exact i218_33_17
  rw [if_neg e17]
  by_cases e18 : x = 18
  · subst e18; rw [if_pos rfl]; exact i218_33_18
  rw [if_neg e18]
  by_cases e19 : x = 19
  · subst e19; rw [if_pos rfl]; exact i218_33_19
  rw [if_neg e19]
  by_cases e20 : x = 20
  · subst e20; rw [if_pos rfl]; exact i218_33_20
  rw [if_neg e20]
  by_cases e21 : x = 21
  · subst e21; rw [if_pos rfl]; exact i218_33_21
  rw [if_neg e21]
  by_cases e22 : x = 22
  · subst e22; rw [if_pos rfl]; exact i218_33_22
  rw [if_neg e22]
  by_cases e23 : x = 23
  · subst e23; rw [if_pos rfl]; exact i218_33_23
  rw [if_neg e23]
  by_cases e24 : x = 24
  · subst e24; rw [if_pos rfl]; exact i218_33_24
  rw [if_neg e24]
  by_cases e25 : x = 25
  · subst e25; rw [if_pos rfl]; exact i218_33_25
  rw [if_neg e25]
  by_cases e26 : x = 26
  · subst e26; rw [if_pos rfl]; exact i218_33_26
  rw [if_neg e26]
  by_cases e27 : x = 27
  · subst e27; rw [if_pos rfl]; exact i218_33_27
  rw [if_neg e27]
  by_cases e28 : x = 28
  · subst e28; rw [if_pos rfl]; exact i218_33_28
  rw [if_neg e28]
  by_cases e29 : x = 29
  · subst e29; rw [if_pos rfl]; exact i218_33_29
  rw [if_neg e29]
  by_cases e30 : x = 30
  · subst e30; rw [if_pos rfl]; exact i218_33_30
  rw [if_neg e30]
  by_cases e31 : x = 31
  · subst e31; rw [if_pos rfl]; exact i218_33_31
  rw [if_neg e31]
  by_cases e32 : x = 32
  · subst e32; rw [if_pos rfl]; exact i218_33_32
  rw [if_neg e32]
  by_cases e33 : x = 33
  · subst e33; rw [if_pos rfl]; exact i218_33_33
  rw [if_neg e33]
  by_cases e34 : x = 34
  · subst e34; rw [if_pos rfl]; exact i218_33_34
  rw [if_neg e34]
  by_cases e35 : x = 35
  · subst e35; rw [if_pos rfl]; exact i218_33_35
  rw [if_neg e35]
  have t0 : x.toInt ≠ 0 := mx_nei e0
  have t1 : x.toInt ≠ 1 := mx_nei e1
  have t2 : x.toInt ≠ 2 := mx_nei e2
  have t3 : x.toInt ≠ 3 := mx_nei e3
  have t4 : x.toInt ≠ 4 := mx_nei e4
  have t5 : x.toInt ≠ 5 := mx_nei e5
  have t6 : x.toInt ≠ 6 := mx_nei e6
  have t7 : x.toInt ≠ 7 := mx_nei e7
  have t8 : x.toInt ≠ 8 := mx_nei e8
  have t9 : x.toInt ≠ 9 := mx_nei e9
  have t10 : x.toInt ≠ 10 := mx_nei e10
  have t11 : x.toInt ≠ 11 := mx_nei e11
  have t12 : x.toInt ≠ 12 := mx_nei e12
  have t13 : x.toInt ≠ 13 := mx_nei e13
  have t14 : x.toInt ≠ 14 := mx_nei e14
  have t15 : x.toInt ≠ 15 := mx_nei e15
  have t16 : x.toInt ≠ 16 := mx_nei e16
  have t17 : x.toInt ≠ 17 := mx_nei e17
  have t18 : x.toInt ≠ 18 := mx_nei e18
  have t19 : x.toInt ≠ 19 := mx_nei e19
  have t20 : x.toInt ≠ 20 := mx_nei e20
  have t21 : x.toInt ≠ 21 := mx_nei e21
  have t22 : x.toInt ≠ 22 := mx_nei e22
  have t23 : x.toInt ≠ 23 := mx_nei e23
  have t24 : x.toInt ≠ 24 := mx_nei e24
  have t25 : x.toInt ≠ 25 := mx_nei e25
  have t26 : x.toInt ≠ 26 := mx_nei e26
  have t27 : x.toInt ≠ 27 := mx_nei e27
  have t28 : x.toInt ≠ 28 := mx_nei e28
  have t29 : x.toInt ≠ 29 := mx_nei e29
  have t30 : x.toInt ≠ 30 := mx_nei e30
  have t31 : x.toInt ≠ 31 := mx_nei e31
  have t32 : x.toInt ≠ 32 := mx_nei e32
  have t33 : x.toInt ≠ 33 := mx_nei e33
  have t34 : x.toInt ≠ 34 := mx_nei e34
  have t35 : x.toInt ≠ 35 := mx_nei e35
  exact i218_33_d (by omega)
end MXI
