/-! the component is made -/
section MB
variable {X : MXX} {d : Nat} {h : MXH} {Q : MXP} {T : MXH} {n : Nat} {v1 v2 v3 v4 v5 v6 v7 v8 v9 v10 v11 v12 v13 v14 v15 v16 : Value} {v0 : Value} {u : Value}
theorem s69_4 (hT : T.length = n) : ex_ X (d + 2) 69 4 [.ref 0, u] [] (.inr (11, [v0, v1, v2, v3, v4, v5, v6, v7, v8, v9, v10, v11, v12, v13, v14, v15, v16]) :: T) Q = ex_ X (d + 2) 69 15 [.ref 0, u] [] (.inr (11, [(.ref (n + 1)), v1, v2, v3, v4, v5, v6, v7, v8, v9, v10, v11, v12, v13, v14, v15, v16]) :: (T ++ mkM (n + 1))) Q := by
  have e : (.inr (11, [v0, v1, v2, v3, v4, v5, v6, v7, v8, v9, v10, v11, v12, v13, v14, v15, v16]) :: T : MXH).length = n + 1 := by rw [List.length_cons, hT]
  simp only [i69_4, i69_5, i69_8, i69_9, k_M, Option.toList_none, List.nil_append]
  simp only [e, List.cons_append, i69_12, pkC0, pfC0, true_and, and_true, eq_self, true_or, or_true, bi_01, mx_nl_i, mx_nl_r, mx_nl_n, mx_nl_f, mx_nl_d]
theorem s69_15 (hT : T.length = n) : ex_ X (d + 2) 69 15 [.ref 0, u] [] (.inr (11, [v0, v1, v2, v3, v4, v5, v6, v7, v8, v9, v10, v11, v12, v13, v14, v15, v16]) :: T) Q = ex_ X (d + 2) 69 28 [.ref 0, u] [] (.inr (11, [v0, (.ref (n + 1)), v2, v3, v4, v5, v6, v7, v8, v9, v10, v11, v12, v13, v14, v15, v16]) :: (T ++ mkT (n + 1) 50)) Q := by
  have e : (.inr (11, [v0, v1, v2, v3, v4, v5, v6, v7, v8, v9, v10, v11, v12, v13, v14, v15, v16]) :: T : MXH).length = n + 1 := by rw [List.length_cons, hT]
  simp only [i69_15, i69_16, i69_19, i69_20, i69_22, show (50 : Int32) = nI 50 from rfl, k_R (n := 50) (by omega), Option.toList_none, List.nil_append]
  simp only [e, List.cons_append, i69_25, pkC1, pfC1, true_and, and_true, eq_self, true_or, or_true, bi_01, mx_nl_i, mx_nl_r, mx_nl_n, mx_nl_f, mx_nl_d]
theorem s69_28 (hT : T.length = n) : ex_ X (d + 2) 69 28 [.ref 0, u] [] (.inr (11, [v0, v1, v2, v3, v4, v5, v6, v7, v8, v9, v10, v11, v12, v13, v14, v15, v16]) :: T) Q = ex_ X (d + 2) 69 41 [.ref 0, u] [] (.inr (11, [v0, v1, (.ref (n + 1)), v3, v4, v5, v6, v7, v8, v9, v10, v11, v12, v13, v14, v15, v16]) :: (T ++ mkT (n + 1) 20)) Q := by
  have e : (.inr (11, [v0, v1, v2, v3, v4, v5, v6, v7, v8, v9, v10, v11, v12, v13, v14, v15, v16]) :: T : MXH).length = n + 1 := by rw [List.length_cons, hT]
  simp only [i69_28, i69_29, i69_32, i69_33, i69_35, show (20 : Int32) = nI 20 from rfl, k_R (n := 20) (by omega), Option.toList_none, List.nil_append]
  simp only [e, List.cons_append, i69_38, pkC2, pfC2, true_and, and_true, eq_self, true_or, or_true, bi_01, mx_nl_i, mx_nl_r, mx_nl_n, mx_nl_f, mx_nl_d]
theorem s69_41 : ex_ X (d + 2) 69 41 [.ref 0, u] [] (.inr (11, [v0, v1, v2, v3, v4, v5, v6, v7, v8, v9, v10, v11, v12, v13, v14, v15, v16]) :: T) Q = ex_ X (d + 2) 69 46 [.ref 0, u] [] (.inr (11, [v0, v1, v2, (.int 1), v4, v5, v6, v7, v8, v9, v10, v11, v12, v13, v14, v15, v16]) :: T) Q := by
  simp only [i69_41, i69_42, i69_43, pkC3, pfC3, true_and, and_true, eq_self, true_or, or_true, bi_01, mx_nl_i, mx_nl_r, mx_nl_n, mx_nl_f, mx_nl_d]
theorem s69_46 (hT : T.length = n) : ex_ X (d + 2) 69 46 [.ref 0, u] [] (.inr (11, [v0, v1, v2, v3, v4, v5, v6, v7, v8, v9, v10, v11, v12, v13, v14, v15, v16]) :: T) Q = ex_ X (d + 2) 69 57 [.ref 0, u] [] (.inr (11, [v0, v1, v2, v3, (.ref (n + 1)), v5, v6, v7, v8, v9, v10, v11, v12, v13, v14, v15, v16]) :: (T ++ mkM (n + 1))) Q := by
  have e : (.inr (11, [v0, v1, v2, v3, v4, v5, v6, v7, v8, v9, v10, v11, v12, v13, v14, v15, v16]) :: T : MXH).length = n + 1 := by rw [List.length_cons, hT]
  simp only [i69_46, i69_47, i69_50, i69_51, k_M, Option.toList_none, List.nil_append]
  simp only [e, List.cons_append, i69_54, pkC4, pfC4, true_and, and_true, eq_self, true_or, or_true, bi_01, mx_nl_i, mx_nl_r, mx_nl_n, mx_nl_f, mx_nl_d]
theorem s69_57 (hT : T.length = n) : ex_ X (d + 2) 69 57 [.ref 0, u] [] (.inr (11, [v0, v1, v2, v3, v4, v5, v6, v7, v8, v9, v10, v11, v12, v13, v14, v15, v16]) :: T) Q = ex_ X (d + 2) 69 70 [.ref 0, u] [] (.inr (11, [v0, v1, v2, v3, v4, (.ref (n + 1)), v6, v7, v8, v9, v10, v11, v12, v13, v14, v15, v16]) :: (T ++ mkT (n + 1) 50)) Q := by
  have e : (.inr (11, [v0, v1, v2, v3, v4, v5, v6, v7, v8, v9, v10, v11, v12, v13, v14, v15, v16]) :: T : MXH).length = n + 1 := by rw [List.length_cons, hT]
  simp only [i69_57, i69_58, i69_61, i69_62, i69_64, show (50 : Int32) = nI 50 from rfl, k_R (n := 50) (by omega), Option.toList_none, List.nil_append]
  simp only [e, List.cons_append, i69_67, pkC5, pfC5, true_and, and_true, eq_self, true_or, or_true, bi_01, mx_nl_i, mx_nl_r, mx_nl_n, mx_nl_f, mx_nl_d]
theorem s69_70 (hT : T.length = n) : ex_ X (d + 2) 69 70 [.ref 0, u] [] (.inr (11, [v0, v1, v2, v3, v4, v5, v6, v7, v8, v9, v10, v11, v12, v13, v14, v15, v16]) :: T) Q = ex_ X (d + 2) 69 83 [.ref 0, u] [] (.inr (11, [v0, v1, v2, v3, v4, v5, (.ref (n + 1)), v7, v8, v9, v10, v11, v12, v13, v14, v15, v16]) :: (T ++ mkT (n + 1) 20)) Q := by
  have e : (.inr (11, [v0, v1, v2, v3, v4, v5, v6, v7, v8, v9, v10, v11, v12, v13, v14, v15, v16]) :: T : MXH).length = n + 1 := by rw [List.length_cons, hT]
  simp only [i69_70, i69_71, i69_74, i69_75, i69_77, show (20 : Int32) = nI 20 from rfl, k_R (n := 20) (by omega), Option.toList_none, List.nil_append]
  simp only [e, List.cons_append, i69_80, pkC6, pfC6, true_and, and_true, eq_self, true_or, or_true, bi_01, mx_nl_i, mx_nl_r, mx_nl_n, mx_nl_f, mx_nl_d]
theorem s69_83 (hT : T.length = n) : ex_ X (d + 2) 69 83 [.ref 0, u] [] (.inr (11, [v0, v1, v2, v3, v4, v5, v6, v7, v8, v9, v10, v11, v12, v13, v14, v15, v16]) :: T) Q = ex_ X (d + 2) 69 96 [.ref 0, u] [] (.inr (11, [v0, v1, v2, v3, v4, v5, v6, v7, v8, (.ref (n + 1)), v10, v11, v12, v13, v14, v15, v16]) :: (T ++ mkT (n + 1) 40)) Q := by
  have e : (.inr (11, [v0, v1, v2, v3, v4, v5, v6, v7, v8, v9, v10, v11, v12, v13, v14, v15, v16]) :: T : MXH).length = n + 1 := by rw [List.length_cons, hT]
  simp only [i69_83, i69_84, i69_87, i69_88, i69_90, show (40 : Int32) = nI 40 from rfl, k_R (n := 40) (by omega), Option.toList_none, List.nil_append]
  simp only [e, List.cons_append, i69_93, pkC9, pfC9, true_and, and_true, eq_self, true_or, or_true, bi_01, mx_nl_i, mx_nl_r, mx_nl_n, mx_nl_f, mx_nl_d]
theorem s69_96 (hT : T.length = n) : ex_ X (d + 2) 69 96 [.ref 0, u] [] (.inr (11, [v0, v1, v2, v3, v4, v5, v6, v7, v8, v9, v10, v11, v12, v13, v14, v15, v16]) :: T) Q = ex_ X (d + 2) 69 104 [.ref 0, u] [] (.inr (11, [v0, v1, v2, v3, v4, v5, v6, v7, v8, v9, (.ref (n + 1)), v11, v12, v13, v14, v15, v16]) :: (T ++ [.inl (4, 4, mx_rfs (fun _ => none))])) Q := by
  have e : (.inr (11, [v0, v1, v2, v3, v4, v5, v6, v7, v8, v9, v10, v11, v12, v13, v14, v15, v16]) :: T : MXH).length = n + 1 := by rw [List.length_cons, hT]
  simp only [i69_96, i69_97, i69_98 (x := 4) (by decide), tn_, e, List.cons_append, i69_101, pkC10, pfC10, true_and, and_true, eq_self, true_or, or_true, bi_01, mx_nl_i, mx_nl_r, mx_nl_n, mx_nl_f, mx_nl_d]
theorem s69_104 (hT : T.length = n) : ex_ X (d + 2) 69 104 [.ref 0, u] [] (.inr (11, [v0, v1, v2, v3, v4, v5, v6, v7, v8, v9, v10, v11, v12, v13, v14, v15, v16]) :: T) Q = ex_ X (d + 2) 69 112 [.ref 0, u] [] (.inr (11, [v0, v1, v2, v3, v4, v5, v6, v7, v8, v9, v10, (.ref (n + 1)), v12, v13, v14, v15, v16]) :: (T ++ [zr 6])) Q := by
  have e : (.inr (11, [v0, v1, v2, v3, v4, v5, v6, v7, v8, v9, v10, v11, v12, v13, v14, v15, v16]) :: T : MXH).length = n + 1 := by rw [List.length_cons, hT]
  simp only [i69_104, i69_105, i69_107 (x := 6) (by decide), tn_, e, List.cons_append, i69_109, pkC11, pfC11, true_and, and_true, eq_self, true_or, or_true, bi_01, mx_nl_i, mx_nl_r, mx_nl_n, mx_nl_f, mx_nl_d]
  rfl
theorem s69_112 (hT : T.length = n) : ex_ X (d + 2) 69 112 [.ref 0, u] [] (.inr (11, [v0, v1, v2, v3, v4, v5, v6, v7, v8, v9, v10, v11, v12, v13, v14, v15, v16]) :: T) Q = ex_ X (d + 2) 69 123 [.ref 0, u] [] (.inr (11, [v0, v1, v2, v3, v4, v5, v6, v7, v8, v9, v10, v11, (.ref (n + 1)), v13, v14, v15, v16]) :: (T ++ mkM (n + 1))) Q := by
  have e : (.inr (11, [v0, v1, v2, v3, v4, v5, v6, v7, v8, v9, v10, v11, v12, v13, v14, v15, v16]) :: T : MXH).length = n + 1 := by rw [List.length_cons, hT]
  simp only [i69_112, i69_113, i69_116, i69_117, k_M, Option.toList_none, List.nil_append]
  simp only [e, List.cons_append, i69_120, pkC12, pfC12, true_and, and_true, eq_self, true_or, or_true, bi_01, mx_nl_i, mx_nl_r, mx_nl_n, mx_nl_f, mx_nl_d]
theorem s69_123 (hT : T.length = n) : ex_ X (d + 2) 69 123 [.ref 0, u] [] (.inr (11, [v0, v1, v2, v3, v4, v5, v6, v7, v8, v9, v10, v11, v12, v13, v14, v15, v16]) :: T) Q = ex_ X (d + 2) 69 131 [.ref 0, u] [] (.inr (11, [v0, v1, v2, v3, v4, v5, v6, v7, v8, v9, v10, v11, v12, (.ref (n + 1)), v14, v15, v16]) :: (T ++ [.inl (5, 3, mx_rfs (fun _ => none))])) Q := by
  have e : (.inr (11, [v0, v1, v2, v3, v4, v5, v6, v7, v8, v9, v10, v11, v12, v13, v14, v15, v16]) :: T : MXH).length = n + 1 := by rw [List.length_cons, hT]
  simp only [i69_123, i69_124, i69_125 (x := 3) (by decide), tn_, e, List.cons_append, i69_128, pkC13, pfC13, true_and, and_true, eq_self, true_or, or_true, bi_01, mx_nl_i, mx_nl_r, mx_nl_n, mx_nl_f, mx_nl_d]
theorem s69_131 (hT : T.length = n) : ex_ X (d + 2) 69 131 [.ref 0, u] [] (.inr (11, [v0, v1, v2, v3, v4, v5, v6, v7, v8, v9, v10, v11, v12, v13, v14, v15, v16]) :: T) Q = ex_ X (d + 2) 69 138 [.ref 0, u] [] (.inr (11, [v0, v1, v2, v3, v4, v5, v6, v7, v8, v9, v10, v11, v12, v13, (.ref (n + 1)), v15, v16]) :: (T ++ [zr 3])) Q := by
  have e : (.inr (11, [v0, v1, v2, v3, v4, v5, v6, v7, v8, v9, v10, v11, v12, v13, v14, v15, v16]) :: T : MXH).length = n + 1 := by rw [List.length_cons, hT]
  simp only [i69_131, i69_132, i69_133 (x := 3) (by decide), tn_, e, List.cons_append, i69_135, pkC14, pfC14, true_and, and_true, eq_self, true_or, or_true, bi_01, mx_nl_i, mx_nl_r, mx_nl_n, mx_nl_f, mx_nl_d]
  rfl
theorem s69_138 (hT : T.length = n) : ex_ X (d + 2) 69 138 [.ref 0, u] [] (.inr (11, [v0, v1, v2, v3, v4, v5, v6, v7, v8, v9, v10, v11, v12, v13, v14, v15, v16]) :: T) Q = ex_ X (d + 2) 69 145 [.ref 0, u] [] (.inr (11, [v0, v1, v2, v3, v4, v5, v6, v7, v8, v9, v10, v11, v12, v13, v14, (.ref (n + 1)), v16]) :: (T ++ [zr 3])) Q := by
  have e : (.inr (11, [v0, v1, v2, v3, v4, v5, v6, v7, v8, v9, v10, v11, v12, v13, v14, v15, v16]) :: T : MXH).length = n + 1 := by rw [List.length_cons, hT]
  simp only [i69_138, i69_139, i69_140 (x := 3) (by decide), tn_, e, List.cons_append, i69_142, pkC15, pfC15, true_and, and_true, eq_self, true_or, or_true, bi_01, mx_nl_i, mx_nl_r, mx_nl_n, mx_nl_f, mx_nl_d]
  rfl
def stH (h : MXH) (i : Int32) : MXH := rs_ (h ++ mkH h.length) 35 i (some h.length)
def stM (h : MXH) (i : Int32) : MXH := rs_ (h ++ mkM h.length) 49 i (some h.length)
theorem l_H {i : Int32} {ci : Nat → Int32} (o : h[0]? = some (.inr (11, cof ci))) (hl : 0 < h.length) (hi : ¬ 4 ≤ i) (rx : rx_ (h ++ mkH h.length) 35 i h.length = true) : ex_ X (d + 2) 69 147 [.ref 0, .int i] [] h Q = ex_ X (d + 2) 69 147 [.ref 0, .int (i + 1)] [] (stH h i) Q := by
  simp only [i69_147, i69_148, i69_149, hi, if_false, i69_152, i69_153, cof_gk o, cof_gv o, i69_156, i69_157, i69_160, i69_161, k_H, Option.toList_none, List.nil_append, i69_164, rx, i69_165, i69_168, true_and, and_true, eq_self, true_or, or_true, bi_01, mx_nl_i, mx_nl_r, mx_nl_n, mx_nl_f, mx_nl_d]
  rfl
theorem l_M {i : Int32} {ci : Nat → Int32} (o : h[0]? = some (.inr (11, cof ci))) (hl : 0 < h.length) (hi : ¬ 3 ≤ i) (rx : rx_ (h ++ mkM h.length) 49 i h.length = true) : ex_ X (d + 2) 69 173 [.ref 0, .int i] [] h Q = ex_ X (d + 2) 69 173 [.ref 0, .int (i + 1)] [] (stM h i) Q := by
  simp only [i69_173, i69_174, i69_175, hi, if_false, i69_178, i69_179, cof_gk o, cof_gv o, i69_182, i69_183, i69_186, i69_187, k_M, Option.toList_none, List.nil_append, i69_190, rx, i69_191, i69_194, true_and, and_true, eq_self, true_or, or_true, bi_01, mx_nl_i, mx_nl_r, mx_nl_n, mx_nl_f, mx_nl_d]
  rfl
def HA_ : MXH := .inr (11, cof mi0) :: ((((((((((((([] ++ mkM 1) ++ mkT 13 50) ++ mkT 15 20) ++ mkM 17) ++ mkT 29 50) ++ mkT 31 20) ++ mkT 33 40) ++ [.inl (4, 4, mx_rfs (fun _ => none))]) ++ [zr 6]) ++ mkM 37) ++ [.inl (5, 3, mx_rfs (fun _ => none))]) ++ [zr 3]) ++ [zr 3])
def HB1 : MXH := stH HA_ 0
def HB2 : MXH := stH HB1 1
def HB3 : MXH := stH HB2 2
def HB4 : MXH := stH HB3 3
def HC1 : MXH := stM HB4 0
def HC2 : MXH := stM HC1 1
def HC_ : MXH := stM HC2 2
set_option maxHeartbeats 1000000 in
theorem k_C1 : ex_ X (d + 2) 69 4 [.ref 0, u] [] [.inr (11, [.null, .null, .null, .int 0, .null, .null, .null, .int 0, .int 0, .null, .null, .null, .null, .null, .null, .null, .int 0])] Q = ex_ X (d + 2) 69 145 [.ref 0, u] [] HA_ Q := by

  rw [s69_4 (n := 0) rfl]
  rw [s69_15 (n := 12) rfl]
  rw [s69_28 (n := 14) rfl]
  rw [s69_41]
  rw [s69_46 (n := 16) rfl]
  rw [s69_57 (n := 28) rfl]
  rw [s69_70 (n := 30) rfl]
  rw [s69_83 (n := 32) rfl]
  rw [s69_96 (n := 34) rfl]
  rw [s69_104 (n := 35) rfl]
  rw [s69_112 (n := 36) rfl]
  rw [s69_123 (n := 48) rfl]
  rw [s69_131 (n := 49) rfl]
  rw [s69_138 (n := 50) rfl]
  rfl
theorem hl_ : HA_.length = 52 ∧ HB1.length = 54 ∧ HB2.length = 56 ∧ HB3.length = 58 ∧ HB4.length = 60 ∧ HC1.length = 72 ∧ HC2.length = 84 ∧ HC_.length = 96 := by decide +kernel
theorem k_C : ev_ X (d + 2) 69 [.ref 0] [.inr (11, [.null, .null, .null, .int 0, .null, .null, .null, .int 0, .int 0, .null, .null, .null, .null, .null, .null, .null, .int 0])] Q = Q none HC_ := by
  rw [i69_e, i69_0, i69_1, k_C1, i69_145, i69_146]
  simp only [true_and, and_true, eq_self, true_or, or_true, bi_01, mx_nl_i, mx_nl_r, mx_nl_n, mx_nl_f, mx_nl_d]
  rw [l_H (ci := mi0) (h := HA_) rfl (by rw [hl_.1]; decide) (by decide) (by decide +kernel)]
  show ex_ X (d + 2) 69 147 [.ref 0, .int 1] [] HB1 Q = _
  rw [l_H (ci := mi0) (h := HB1) rfl (by rw [hl_.2.1]; decide) (by decide) (by decide +kernel)]
  show ex_ X (d + 2) 69 147 [.ref 0, .int 2] [] HB2 Q = _
  rw [l_H (ci := mi0) (h := HB2) rfl (by rw [hl_.2.2.1]; decide) (by decide) (by decide +kernel)]
  show ex_ X (d + 2) 69 147 [.ref 0, .int 3] [] HB3 Q = _
  rw [l_H (ci := mi0) (h := HB3) rfl (by rw [hl_.2.2.2.1]; decide) (by decide) (by decide +kernel)]
  show ex_ X (d + 2) 69 147 [.ref 0, .int 4] [] HB4 Q = _
  rw [i69_147, i69_148, i69_149, if_pos (by decide), i69_171, i69_172]
  simp only [true_and, and_true, eq_self, true_or, or_true, bi_01, mx_nl_i, mx_nl_r, mx_nl_n, mx_nl_f, mx_nl_d]
  rw [l_M (ci := mi0) (h := HB4) rfl (by rw [hl_.2.2.2.2.1]; decide) (by decide) (by decide +kernel)]
  show ex_ X (d + 2) 69 173 [.ref 0, .int 1] [] HC1 Q = _
  rw [l_M (ci := mi0) (h := HC1) rfl (by rw [hl_.2.2.2.2.2.1]; decide) (by decide) (by decide +kernel)]
  show ex_ X (d + 2) 69 173 [.ref 0, .int 2] [] HC2 Q = _
  rw [l_M (ci := mi0) (h := HC2) rfl (by rw [hl_.2.2.2.2.2.2.1]; decide) (by decide) (by decide +kernel)]
  show ex_ X (d + 2) 69 173 [.ref 0, .int 3] [] HC_ Q = _
  rw [i69_173, i69_174, i69_175, if_pos (by decide), i69_197]
end MB
