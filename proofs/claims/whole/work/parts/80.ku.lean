/-! the component reads a text: small methods -/
def ix_ (y : Nat → Int32) (c : Int32) : Nat → Nat → Int32
  | 0, _ => -1
  | n + 1, k => if y k = c then nI k else ix_ y c n (k + 1)
theorem i2b_c : ∀ q : Nat, q < 256 → (((nI q).toInt8.toInt32 = 112 ↔ (nI q : Int32) = 112) ∧ ((nI q).toInt8.toInt32 = 97 ↔ (nI q : Int32) = 97) ∧ ((nI q).toInt8.toInt32 = 116 ↔ (nI q : Int32) = 116) ∧ ((nI q).toInt8.toInt32 = 117 ↔ (nI q : Int32) = 117) ∧ ((nI q).toInt8.toInt32 = 102 ↔ (nI q : Int32) = 102) ∧ ((nI q).toInt8.toInt32 = 115 ↔ (nI q : Int32) = 115)) := by decide +kernel
theorem ix_0 {q : Nat} (hq : q < 256) : ix_ mx_by0 (nI q).toInt8.toInt32 4 0 = nmv true (nI q) := by
  obtain ⟨a1, a2, a3, a4, _, _⟩ := i2b_c q hq
  unfold nmv
  rw [if_pos rfl]
  show (if (112 : Int32) = (nI q).toInt8.toInt32 then nI 0 else if (97 : Int32) = (nI q).toInt8.toInt32 then nI 1 else if (116 : Int32) = (nI q).toInt8.toInt32 then nI 2 else if (117 : Int32) = (nI q).toInt8.toInt32 then nI 3 else -1) = _
  simp only [eq_comm (a := (112 : Int32)), eq_comm (a := (97 : Int32)), eq_comm (a := (116 : Int32)), eq_comm (a := (117 : Int32)), a1, a2, a3, a4]
  rfl
theorem ix_1 {q : Nat} (hq : q < 256) : ix_ mx_by1 (nI q).toInt8.toInt32 4 0 = nmv false (nI q) := by
  obtain ⟨a1, _, a3, _, a5, a6⟩ := i2b_c q hq
  unfold nmv
  rw [if_neg (by decide)]
  show (if (112 : Int32) = (nI q).toInt8.toInt32 then nI 0 else if (102 : Int32) = (nI q).toInt8.toInt32 then nI 1 else if (115 : Int32) = (nI q).toInt8.toInt32 then nI 2 else if (116 : Int32) = (nI q).toInt8.toInt32 then nI 3 else -1) = _
  simp only [eq_comm (a := (112 : Int32)), eq_comm (a := (102 : Int32)), eq_comm (a := (115 : Int32)), eq_comm (a := (116 : Int32)), a1, a3, a5, a6]
  rfl
section KU
variable {X : MXX} {d : Nat} {h : MXH} {Q : MXP}
theorem k_ixc_l {v1 v2 : Value} {c : Int32} : ∀ n k, k + n = 4 → ex_ X d 216 7 [.float 4, v1, v2, .int 4, .int c, .int (nI k)] [] h Q = Q (some (.int (ix_ mx_by0 c n k))) h := by
  intro n
  induction n with
  | zero =>
    intro k hk
    have e : k = 4 := by omega
    subst e
    rw [i216_7]
    simp only [i216_0, i216_1, i216_2, i216_4, i216_5, i216_9, i216_10, i216_13, i216_13f0, i216_13f1, i216_13f2, i216_13f3, i216_14, i216_16f0, i216_16f1, i216_17, i216_19, i216_22, i216_24, i216_25, i216_28, i216_31, i216_32, i216_e, i216_e1, show ((4 : Int32) ≤ nI 4) from by decide, if_true, ix_, true_and, and_true, eq_self, true_or, or_true, bi_01, mx_nl_i, mx_nl_r, mx_nl_n, mx_nl_f, mx_nl_d]
  | succ n ih =>
    intro k hk
    have hc : ¬ ((4 : Int32) ≤ nI k) := by
      show ¬ (nI 4 ≤ nI k)
      rw [nI_leI (by decide) (by omega)]; omega
    rw [show ix_ mx_by0 c (n + 1) k = if mx_by0 k = c then nI k else ix_ mx_by0 c n (k + 1) from rfl]
    rw [i216_7]
    by_cases c1 : mx_by0 k = c
    · rw [if_pos c1]
      simp only [i216_0, i216_1, i216_2, i216_4, i216_5, i216_9, i216_10, i216_13, i216_13f0, i216_13f1, i216_13f2, i216_13f3, i216_14, i216_16f0, i216_16f1, i216_17, i216_19, i216_22, i216_24, i216_25, i216_28, i216_31, i216_32, i216_e, i216_e1, hc, if_false, mx_inN (show k < 4 by omega) (show 4 < 2 ^ 31 by decide), nI_clamp (show k < 2 ^ 31 by omega), c1, not_true_eq_false, true_and, and_true, eq_self, true_or, or_true, bi_01, mx_nl_i, mx_nl_r, mx_nl_n, mx_nl_f, mx_nl_d]
    · rw [if_neg c1, ← ih (k + 1) (by omega)]
      simp only [i216_0, i216_1, i216_2, i216_4, i216_5, i216_9, i216_10, i216_13, i216_13f0, i216_13f1, i216_13f2, i216_13f3, i216_14, i216_16f0, i216_16f1, i216_17, i216_19, i216_22, i216_24, i216_25, i216_28, i216_31, i216_32, i216_e, i216_e1, hc, if_false, mx_inN (show k < 4 by omega) (show 4 < 2 ^ 31 by decide), nI_clamp (show k < 2 ^ 31 by omega), c1, not_false_eq_true, if_true, nI_1, true_and, and_true, eq_self, true_or, or_true, bi_01, mx_nl_i, mx_nl_r, mx_nl_n, mx_nl_f, mx_nl_d]
theorem k_ixc_l1 {v1 v2 : Value} {c : Int32} : ∀ n k, k + n = 4 → ex_ X d 216 7 [.float 5, v1, v2, .int 4, .int c, .int (nI k)] [] h Q = Q (some (.int (ix_ mx_by1 c n k))) h := by
  intro n
  induction n with
  | zero =>
    intro k hk
    have e : k = 4 := by omega
    subst e
    rw [i216_7]
    simp only [i216_0, i216_1, i216_2, i216_4, i216_5, i216_9, i216_10, i216_13, i216_13f0, i216_13f1, i216_13f2, i216_13f3, i216_14, i216_16f0, i216_16f1, i216_17, i216_19, i216_22, i216_24, i216_25, i216_28, i216_31, i216_32, i216_e, i216_e1, show ((4 : Int32) ≤ nI 4) from by decide, if_true, ix_, true_and, and_true, eq_self, true_or, or_true, bi_01, mx_nl_i, mx_nl_r, mx_nl_n, mx_nl_f, mx_nl_d]
  | succ n ih =>
    intro k hk
    have hc : ¬ ((4 : Int32) ≤ nI k) := by
      show ¬ (nI 4 ≤ nI k)
      rw [nI_leI (by decide) (by omega)]; omega
    rw [show ix_ mx_by1 c (n + 1) k = if mx_by1 k = c then nI k else ix_ mx_by1 c n (k + 1) from rfl]
    rw [i216_7]
    by_cases c1 : mx_by1 k = c
    · rw [if_pos c1]
      simp only [i216_0, i216_1, i216_2, i216_4, i216_5, i216_9, i216_10, i216_13, i216_13f0, i216_13f1, i216_13f2, i216_13f3, i216_14, i216_16f0, i216_16f1, i216_17, i216_19, i216_22, i216_24, i216_25, i216_28, i216_31, i216_32, i216_e, i216_e1, hc, if_false, mx_inN (show k < 4 by omega) (show 4 < 2 ^ 31 by decide), nI_clamp (show k < 2 ^ 31 by omega), c1, not_true_eq_false, true_and, and_true, eq_self, true_or, or_true, bi_01, mx_nl_i, mx_nl_r, mx_nl_n, mx_nl_f, mx_nl_d]
    · rw [if_neg c1, ← ih (k + 1) (by omega)]
      simp only [i216_0, i216_1, i216_2, i216_4, i216_5, i216_9, i216_10, i216_13, i216_13f0, i216_13f1, i216_13f2, i216_13f3, i216_14, i216_16f0, i216_16f1, i216_17, i216_19, i216_22, i216_24, i216_25, i216_28, i216_31, i216_32, i216_e, i216_e1, hc, if_false, mx_inN (show k < 4 by omega) (show 4 < 2 ^ 31 by decide), nI_clamp (show k < 2 ^ 31 by omega), c1, not_false_eq_true, if_true, nI_1, true_and, and_true, eq_self, true_or, or_true, bi_01, mx_nl_i, mx_nl_r, mx_nl_n, mx_nl_f, mx_nl_d]
def wnm (lw : Bool) : UInt32 := if lw = true then 2 else 3
theorem k_idx {q : Nat} {lw : Bool} (hq : q < 256) : ev_ X (d + 4) 209 [.float (wnm lw), .int (nI q)] h Q = Q (some (.int (nmv lw (nI q)))) h := by
  have h0 : ¬ (nI q : Int32) < 0 := nI_pos (by omega)
  have h1 : ¬ (255 : Int32) < nI q := by
    show ¬ (nI 255 < nI q)
    rw [nI_ltI (by decide) (by omega)]; omega
  have s4 : ((4 : Int32) >>> ((0 : Int32) &&& 31)) = 4 := by decide
  have m0 : (if (0 : Int32) < 0 then (0 : Int32) else 0) = 0 := by decide
  have m4 : (if (4 : Int32) < 4 then (4 : Int32) else 4) = 4 := by decide
  cases lw with
  | true =>
    have key := fun Q' => k_ixc_l (X := X) (d := d + 1) (h := h) (Q := Q') (v1 := .int (nI q)) (v2 := .int 0) (c := (nI q).toInt8.toInt32) 4 0 (by omega)
    rw [show (nI 0 : Int32) = 0 from rfl] at key
    rw [← ix_0 hq]
    show ev_ X (d + 4) 209 [.float 2, .int (nI q)] h Q = _
    simp only [i209_0, i209_0f0, i209_0f1, i209_0f2, i209_0f3, i209_1, i209_2, i209_3f0, i209_3f1, i209_6, i209_e0, i209_e1, i210_0, i210_0f0, i210_0f1, i210_0f2, i210_0f3, i210_1f0, i210_1f1, i210_4, i210_7, i210_7f0, i210_7f1, i210_7f2, i210_7f3, i210_8f0, i210_8f1, i210_11, i210_12, i210_13, i210_13f0, i210_13f1, i210_13f2, i210_13f3, i210_14f0, i210_14f1, i210_17f0, i210_17f1, i210_20, i210_23, i210_23f0, i210_23f1, i210_23f2, i210_23f3, i210_24f0, i210_24f1, i210_27, i210_28, i210_29, i210_29f0, i210_29f1, i210_29f2, i210_29f3, i210_30f0, i210_30f1, i210_36, i210_e0, i210_e1, i211_0, i211_3, i211_6, i211_6f0, i211_6f1, i211_6f2, i211_6f3, i211_7f0, i211_7f1, i211_10, i211_13, i211_14, i211_17, i211_e0, i211_e1, i211_18 mx_01b, i212_0, i212_0f0, i212_0f1, i212_0f2, i212_0f3, i212_1f0, i212_1f1, i212_4, i212_4f0, i212_4f1, i212_5, i212_5f0, i212_5f1, i212_5f2, i212_5f3, i212_6f0, i212_6f1, i212_9, i212_10, i212_e0, i212_e1, i213_0, i213_3, i213_6, i213_6f0, i213_6f1, i213_6f2, i213_6f3, i213_7f0, i213_7f1, i213_10, i213_13, i213_14, i213_e0, i213_e1, i214_0, i214_1, i214_4, i214_7, i214_8, i214_9, i214_10, i214_11, i214_14, i214_15, i214_16, i214_16f0, i214_16f1, i214_16f2, i214_16f3, i214_17, i214_17f0, i214_17f1, i214_18, i214_21, i214_22, i214_23, i214_24, i214_27, i214_28, i214_29, i214_29f0, i214_29f1, i214_29f2, i214_29f3, i214_30, i214_31, i214_32, i214_33f0, i214_33f1, i214_36, i214_e, i214_e1, i215_0, i215_1, i215_4, i215_5, i215_8, i215_11, i215_12, i215_15, i215_e, i215_16 mx_01b, i216_0, i216_1, i216_2, i216_4, i216_5, i216_9, i216_10, i216_13, i216_13f0, i216_13f1, i216_13f2, i216_13f3, i216_14, i216_16f0, i216_16f1, i216_17, i216_19, i216_22, i216_24, i216_25, i216_28, i216_31, i216_32, i216_e, i216_e1, h0, h1, s4, m0, m4, show ¬ ((1 : Int32) = 0) from by decide, show ((0 : Int32) < 4) from by decide, not_true_eq_false, not_false_eq_true, if_true, if_false, key, Option.toList_some, Option.toList_none, List.nil_append, List.cons_append, true_and, and_true, eq_self, true_or, or_true, bi_01, mx_nl_i, mx_nl_r, mx_nl_n, mx_nl_f, mx_nl_d]
  | false =>
    have key := fun Q' => k_ixc_l1 (X := X) (d := d + 1) (h := h) (Q := Q') (v1 := .int (nI q)) (v2 := .int 0) (c := (nI q).toInt8.toInt32) 4 0 (by omega)
    rw [show (nI 0 : Int32) = 0 from rfl] at key
    rw [← ix_1 hq]
    show ev_ X (d + 4) 209 [.float 3, .int (nI q)] h Q = _
    simp only [i209_0, i209_0f0, i209_0f1, i209_0f2, i209_0f3, i209_1, i209_2, i209_3f0, i209_3f1, i209_6, i209_e0, i209_e1, i210_0, i210_0f0, i210_0f1, i210_0f2, i210_0f3, i210_1f0, i210_1f1, i210_4, i210_7, i210_7f0, i210_7f1, i210_7f2, i210_7f3, i210_8f0, i210_8f1, i210_11, i210_12, i210_13, i210_13f0, i210_13f1, i210_13f2, i210_13f3, i210_14f0, i210_14f1, i210_17f0, i210_17f1, i210_20, i210_23, i210_23f0, i210_23f1, i210_23f2, i210_23f3, i210_24f0, i210_24f1, i210_27, i210_28, i210_29, i210_29f0, i210_29f1, i210_29f2, i210_29f3, i210_30f0, i210_30f1, i210_36, i210_e0, i210_e1, i211_0, i211_3, i211_6, i211_6f0, i211_6f1, i211_6f2, i211_6f3, i211_7f0, i211_7f1, i211_10, i211_13, i211_14, i211_17, i211_e0, i211_e1, i211_18 mx_01b, i212_0, i212_0f0, i212_0f1, i212_0f2, i212_0f3, i212_1f0, i212_1f1, i212_4, i212_4f0, i212_4f1, i212_5, i212_5f0, i212_5f1, i212_5f2, i212_5f3, i212_6f0, i212_6f1, i212_9, i212_10, i212_e0, i212_e1, i213_0, i213_3, i213_6, i213_6f0, i213_6f1, i213_6f2, i213_6f3, i213_7f0, i213_7f1, i213_10, i213_13, i213_14, i213_e0, i213_e1, i214_0, i214_1, i214_4, i214_7, i214_8, i214_9, i214_10, i214_11, i214_14, i214_15, i214_16, i214_16f0, i214_16f1, i214_16f2, i214_16f3, i214_17, i214_17f0, i214_17f1, i214_18, i214_21, i214_22, i214_23, i214_24, i214_27, i214_28, i214_29, i214_29f0, i214_29f1, i214_29f2, i214_29f3, i214_30, i214_31, i214_32, i214_33f0, i214_33f1, i214_36, i214_e, i214_e1, i215_0, i215_1, i215_4, i215_5, i215_8, i215_11, i215_12, i215_15, i215_e, i215_16 mx_01b, i216_0, i216_1, i216_2, i216_4, i216_5, i216_9, i216_10, i216_13, i216_13f0, i216_13f1, i216_13f2, i216_13f3, i216_14, i216_16f0, i216_16f1, i216_17, i216_19, i216_22, i216_24, i216_25, i216_28, i216_31, i216_32, i216_e, i216_e1, h0, h1, s4, m0, m4, show ¬ ((1 : Int32) = 0) from by decide, show ((0 : Int32) < 4) from by decide, not_true_eq_false, not_false_eq_true, if_true, if_false, key, Option.toList_some, Option.toList_none, List.nil_append, List.cons_append, true_and, and_true, eq_self, true_or, or_true, bi_01, mx_nl_i, mx_nl_r, mx_nl_n, mx_nl_f, mx_nl_d]
theorem k_dig {x : Int32} : ev_ X d 62 [.int x] h Q = Q (some (.int (bi_ (decide (48 ≤ x ∧ x ≤ 57))))) h := by
  by_cases c1 : x < 48
  · simp only [i62_0, i62_1, i62_3, i62_6, i62_7, i62_9, i62_12, i62_13, i62_16, i62_e, i62_17 mx_01a, i62_17 mx_01b, c1, if_true, show ¬ (48 ≤ x ∧ x ≤ 57) from fun q => Int32.not_lt.mpr q.1 c1, decide_false]; rfl
  · by_cases c2 : 57 < x
    · simp only [i62_0, i62_1, i62_3, i62_6, i62_7, i62_9, i62_12, i62_13, i62_16, i62_e, i62_17 mx_01a, i62_17 mx_01b, c1, c2, if_true, if_false, show ¬ (48 ≤ x ∧ x ≤ 57) from fun q => Int32.not_lt.mpr q.2 c2, decide_false]; rfl
    · simp only [i62_0, i62_1, i62_3, i62_6, i62_7, i62_9, i62_12, i62_13, i62_16, i62_e, i62_17 mx_01a, i62_17 mx_01b, c1, c2, if_false, show (48 ≤ x ∧ x ≤ 57) from ⟨Int32.not_lt.mp c1, Int32.not_lt.mp c2⟩, decide_true]; rfl
theorem k_lvl {x : Int32} : ev_ X d 63 [.int x] h Q = Q (some (.int (nI (lvl x)))) h := by
  have n0 : (nI 0 : Int32) = 0 := rfl
  have n1 : (nI 1 : Int32) = 1 := rfl
  have n2 : (nI 2 : Int32) = 2 := rfl
  have n3 : (nI 3 : Int32) = 3 := rfl
  have n4 : (nI 4 : Int32) = 4 := rfl
  have n5 : (nI 5 : Int32) = 5 := rfl
  by_cases a1 : x = 37
  · subst a1; rw [show lvl 37 = 4 from by decide, n4]; simp only [i63_0, i63_92, i63_93, i63_94, i63_95, i63_96, i63_97, i63_98, i63_99, i63_100, i63_101, i63_102, i63_103, i63_e, i63_1s, if_true]
  by_cases a2 : x = 38
  · subst a2; rw [show lvl 38 = 1 from by decide, n1]; simp only [i63_0, i63_92, i63_93, i63_94, i63_95, i63_96, i63_97, i63_98, i63_99, i63_100, i63_101, i63_102, i63_103, i63_e, i63_1s, a1, if_true, if_false]
  by_cases a3 : x = 42
  · subst a3; rw [show lvl 42 = 4 from by decide, n4]; simp only [i63_0, i63_92, i63_93, i63_94, i63_95, i63_96, i63_97, i63_98, i63_99, i63_100, i63_101, i63_102, i63_103, i63_e, i63_1s, a1, a2, if_true, if_false]
  by_cases a4 : x = 43
  · subst a4; rw [show lvl 43 = 3 from by decide, n3]; simp only [i63_0, i63_92, i63_93, i63_94, i63_95, i63_96, i63_97, i63_98, i63_99, i63_100, i63_101, i63_102, i63_103, i63_e, i63_1s, a1, a2, a3, if_true, if_false]
  by_cases a5 : x = 45
  · subst a5; rw [show lvl 45 = 3 from by decide, n3]; simp only [i63_0, i63_92, i63_93, i63_94, i63_95, i63_96, i63_97, i63_98, i63_99, i63_100, i63_101, i63_102, i63_103, i63_e, i63_1s, a1, a2, a3, a4, if_true, if_false]
  by_cases a6 : x = 47
  · subst a6; rw [show lvl 47 = 4 from by decide, n4]; simp only [i63_0, i63_92, i63_93, i63_94, i63_95, i63_96, i63_97, i63_98, i63_99, i63_100, i63_101, i63_102, i63_103, i63_e, i63_1s, a1, a2, a3, a4, a5, if_true, if_false]
  by_cases a7 : x = 60
  · subst a7; rw [show lvl 60 = 2 from by decide, n2]; simp only [i63_0, i63_92, i63_93, i63_94, i63_95, i63_96, i63_97, i63_98, i63_99, i63_100, i63_101, i63_102, i63_103, i63_e, i63_1s, a1, a2, a3, a4, a5, a6, if_true, if_false]
  by_cases a8 : x = 61
  · subst a8; rw [show lvl 61 = 2 from by decide, n2]; simp only [i63_0, i63_92, i63_93, i63_94, i63_95, i63_96, i63_97, i63_98, i63_99, i63_100, i63_101, i63_102, i63_103, i63_e, i63_1s, a1, a2, a3, a4, a5, a6, a7, if_true, if_false]
  by_cases a9 : x = 62
  · subst a9; rw [show lvl 62 = 2 from by decide, n2]; simp only [i63_0, i63_92, i63_93, i63_94, i63_95, i63_96, i63_97, i63_98, i63_99, i63_100, i63_101, i63_102, i63_103, i63_e, i63_1s, a1, a2, a3, a4, a5, a6, a7, a8, if_true, if_false]
  by_cases a10 : x = 124
  · subst a10; rw [show lvl 124 = 0 from by decide, n0]; simp only [i63_0, i63_92, i63_93, i63_94, i63_95, i63_96, i63_97, i63_98, i63_99, i63_100, i63_101, i63_102, i63_103, i63_e, i63_1s, a1, a2, a3, a4, a5, a6, a7, a8, a9, if_true, if_false]
  · have e : lvl x = 5 := by
      unfold lvl
      rw [if_neg a10, if_neg a2, if_neg a7, if_neg a8, if_neg a9, if_neg a4, if_neg a5, if_neg a3, if_neg a6, if_neg a1]
    rw [e, n5]
    simp only [i63_0, i63_92, i63_93, i63_94, i63_95, i63_96, i63_97, i63_98, i63_99, i63_100, i63_101, i63_102, i63_103, i63_e, i63_1s, a1, a2, a3, a4, a5, a6, a7, a8, a9, a10, if_false]
end KU
/-! the heap as a text is read -/
abbrev R4 : Type := (Nat → Int32) × (Nat → Int32) × (Nat → Int32) × (Nat → Int32)
def tiv (N a z : Nat) (rt : Int32) : Nat → Int32 := fun j => if j = 1 then nI N else if j = 3 then nI a else if j = 8 then nI z else if j = 9 then rt else 0
def QH (h : MXH) (w : UInt32) (N a z : Nat) (rt : Int32) (R : R4) : MXH := h ++ [.inr (10, tof h.length w (tiv N a z rt)), .inl (0, 4 + N, .inl R.1), .inl (0, 4 + N, .inl R.2.1), .inl (0, 4 + N, .inl R.2.2.1), .inl (0, 4 + N, .inl R.2.2.2)]
section QH
variable {h : MXH} {w : UInt32} {N a z : Nat} {rt : Int32} {R : R4} {x : Int32} {f : Nat → Int32}
theorem qh_o : (QH h w N a z rt R)[h.length]? = some (.inr (10, tof h.length w (tiv N a z rt))) := by unfold QH; rw [List.getElem?_append_right (Nat.le_refl _), Nat.sub_self]; rfl
theorem qh_1 : (QH h w N a z rt R)[h.length + 1]? = some (.inl (0, 4 + N, .inl R.1)) := by unfold QH; rw [List.getElem?_append_right (by omega), Nat.add_sub_cancel_left]; rfl
theorem qh_2 : (QH h w N a z rt R)[h.length + 2]? = some (.inl (0, 4 + N, .inl R.2.1)) := by unfold QH; rw [List.getElem?_append_right (by omega), Nat.add_sub_cancel_left]; rfl
theorem qh_3 : (QH h w N a z rt R)[h.length + 3]? = some (.inl (0, 4 + N, .inl R.2.2.1)) := by unfold QH; rw [List.getElem?_append_right (by omega), Nat.add_sub_cancel_left]; rfl
theorem qh_4 : (QH h w N a z rt R)[h.length + 4]? = some (.inl (0, 4 + N, .inl R.2.2.2)) := by unfold QH; rw [List.getElem?_append_right (by omega), Nat.add_sub_cancel_left]; rfl
theorem qh_lt {j : Nat} (hj : j < h.length) : (QH h w N a z rt R)[j]? = h[j]? := pu_lt hj
theorem qh_s3 {b : Nat} : (QH h w N a z rt R).set h.length (.inr (10, tof h.length w (upd (tiv N a z rt) 3 (nI b)))) = QH h w N b z rt R := by
  unfold QH; rw [List.set_append_right _ _ (Nat.le_refl _), Nat.sub_self]; rfl
theorem qh_s8 {b : Nat} : (QH h w N a z rt R).set h.length (.inr (10, tof h.length w (upd (tiv N a z rt) 8 (nI b)))) = QH h w N a b rt R := by
  unfold QH; rw [List.set_append_right _ _ (Nat.le_refl _), Nat.sub_self]; rfl
theorem qh_s9 {b : Int32} : (QH h w N a z rt R).set h.length (.inr (10, tof h.length w (upd (tiv N a z rt) 9 b))) = QH h w N a z b R := by
  unfold QH; rw [List.set_append_right _ _ (Nat.le_refl _), Nat.sub_self]; rfl
theorem qh_c1 : (QH h w N a z rt R).set (h.length + 1) (.inl (0, 4 + N, .inl f)) = QH h w N a z rt (f, R.2) := by
  unfold QH; rw [List.set_append_right _ _ (by omega), Nat.add_sub_cancel_left]; rfl
theorem qh_c2 : (QH h w N a z rt R).set (h.length + 2) (.inl (0, 4 + N, .inl f)) = QH h w N a z rt (R.1, f, R.2.2) := by
  unfold QH; rw [List.set_append_right _ _ (by omega), Nat.add_sub_cancel_left]; rfl
theorem qh_c3 : (QH h w N a z rt R).set (h.length + 3) (.inl (0, 4 + N, .inl f)) = QH h w N a z rt (R.1, R.2.1, f, R.2.2.2) := by
  unfold QH; rw [List.set_append_right _ _ (by omega), Nat.add_sub_cancel_left]; rfl
theorem qh_c4 : (QH h w N a z rt R).set (h.length + 4) (.inl (0, 4 + N, .inl f)) = QH h w N a z rt (R.1, R.2.1, R.2.2.1, f) := by
  unfold QH; rw [List.set_append_right _ _ (by omega), Nat.add_sub_cancel_left]; rfl
theorem tiv_1 : tiv N a z rt 1 = nI N := rfl
theorem tiv_3 : tiv N a z rt 3 = nI a := rfl
theorem tiv_8 : tiv N a z rt 8 = nI z := rfl
theorem tiv_9 : tiv N a z rt 9 = rt := rfl
end QH
/-- a step more -/
def ad4 (R : R4) (z : Nat) (s x y : Int32) : R4 := (upd R.1 z s, upd R.2.1 z x, upd R.2.2.1 z y, R.2.2.2)
/-- the tape that is read -/
def TPE (h : MXH) (N : Nat) (T : Nat → Int32) : Prop := 111 ≤ h.length ∧ N ≤ 50 ∧ h[13]? = some (.inr (5, wof 14 (nI N))) ∧ (∃ g, h[14]? = some (.inl (0, 50, .inl g)) ∧ ∀ j, j < N → g j = T j) ∧ ∀ j, j < N → ∃ q, q < 256 ∧ T j = nI q
section KU2
variable {X : MXX} {d : Nat} {h : MXH} {Q : MXP} {w : UInt32} {N a z : Nat} {rt : Int32} {R : R4} {T : Nat → Int32}
theorem k_peek (tp : TPE h N T) (ha : a ≤ N) : ev_ X d 61 [.ref h.length] (QH h w N a z rt R) Q = Q (some (.int (pek T N a))) (QH h w N a z rt R) := by
  obtain ⟨hl, hN, w0, ⟨g, r0, eg⟩, _⟩ := tp
  have w1 : (QH h w N a z rt R)[13]? = some (.inr (5, wof 14 (nI N))) := by rw [qh_lt (by omega)]; exact w0
  have r1 : (QH h w N a z rt R)[14]? = some (.inl (0, 50, .inl g)) := by rw [qh_lt (by omega)]; exact r0
  unfold pek
  by_cases c : a < N
  · have hc : ¬ ((nI N : Int32) ≤ nI a) := by rw [nI_leI (by omega) (by omega)]; omega
    rw [if_pos c, ← eg a c]
    simp only [i61_0, i61_1, i61_4, i61_5, i61_8, i61_11, i61_12, i61_15, i61_16, i61_19, i61_22, i61_25, i61_26, i61_29, i61_32, i61_33, i61_36, i61_37, i61_40, i61_41, i61_e, tof_gk qh_o, tof_gv qh_o, tiv_1, tiv_3, hc, if_false, wof_gk w1, wof_gv w1, ar_ik r1, ar_ia r1, mx_inN (show a < 50 by omega) (show 50 < 2 ^ 31 by decide), nI_clamp (show a < 2 ^ 31 by omega), true_and, and_true, eq_self, true_or, or_true, bi_01, mx_nl_i, mx_nl_r, mx_nl_n, mx_nl_f, mx_nl_d]
  · have e : a = N := by omega
    subst e
    rw [if_neg c]
    simp only [i61_0, i61_1, i61_4, i61_5, i61_8, i61_11, i61_12, i61_15, i61_16, i61_19, i61_22, i61_25, i61_26, i61_29, i61_32, i61_33, i61_36, i61_37, i61_40, i61_41, i61_e, tof_gk qh_o, tof_gv qh_o, tiv_1, tiv_3, Int32.le_refl, if_true, true_and, and_true, eq_self, true_or, or_true, bi_01, mx_nl_i, mx_nl_r, mx_nl_n, mx_nl_f, mx_nl_d]
theorem k_step {s x y : Int32} (hz : z < 4 + N) (hN : N ≤ 50) : ev_ X d 64 [.ref h.length, .int s, .int x, .int y] (QH h w N a z rt R) Q = Q (some (.int (nI z))) (QH h w N a (z + 1) rt (ad4 R z s x y)) := by
  have i1 : mx_in (nI z) (4 + N) = true := mx_inN hz (by omega)
  have hc : (nI z : Int32) < nI (4 + N) := by rw [nI_ltI (by omega) (by omega)]; exact hz
  simp only [i64_0, i64_1, i64_4, i64_5, i64_9, i64_12, i64_13, i64_14, i64_15, i64_18, i64_19, i64_22, i64_23, i64_24, i64_25, i64_28, i64_29, i64_32, i64_33, i64_34, i64_35, i64_38, i64_39, i64_42, i64_43, i64_44, i64_45, i64_46, i64_49, i64_50, i64_51, i64_54, i64_55, i64_58, i64_59, i64_60, i64_e, i64_8 (ar_al qh_1), show Int32.ofNat (4 + N) = nI (4 + N) from rfl, hc, if_true, tof_gk qh_o, tof_gv qh_o, tiv_8, ar_ik qh_1, ar_is qh_1, ar_ik qh_2, ar_is qh_2, ar_ik qh_3, ar_is qh_3, i1, nI_clamp (show z < 2 ^ 31 by omega), qh_c1, qh_c2, qh_c3, nI_1, tof_pk8 qh_o, tof_pf8 qh_o, qh_s8, nI_pred, true_and, and_true, eq_self, true_or, or_true, bi_01, mx_nl_i, mx_nl_r, mx_nl_n, mx_nl_f, mx_nl_d]
  rfl
theorem k_num_l (tp : TPE h N T) : ∀ (f k : Nat) (b : Nat) (x : Int32), k + f = 4 → b ≤ N → ex_ X (d + 1) 68 4 [.ref h.length, .int x, .int (nI k)] [] (QH h w N b z rt R) Q = ex_ X (d + 1) 68 48 [.ref h.length, .int (dgl T N f b x).2, .int (nI (k + ((dgl T N f b x).1 - b)))] [] (QH h w N (dgl T N f b x).1 z rt R) Q := by
  intro f
  induction f with
  | zero =>
    intro k b x hk hb
    have e : k = 4 := by omega
    subst e
    rw [i68_4]
    simp only [i68_0, i68_1, i68_2, i68_3, i68_5, i68_6, i68_9, i68_10, i68_13, i68_16, i68_19, i68_20, i68_22, i68_23, i68_24, i68_27, i68_28, i68_30, i68_31, i68_32, i68_33, i68_34, i68_37, i68_38, i68_39, i68_42, i68_45, i68_49, i68_50, i68_51, i68_52, i68_55, i68_56, i68_57, i68_60, i68_61, i68_64, i68_65, i68_66, i68_67, i68_68, i68_e, show ((4 : Int32) ≤ nI 4) from by decide, if_true, dgl, Nat.sub_self, Nat.add_zero, true_and, and_true, eq_self, true_or, or_true, bi_01, mx_nl_i, mx_nl_r, mx_nl_n, mx_nl_f, mx_nl_d]
  | succ f ih =>
    intro k b x hk hb
    have hc : ¬ ((4 : Int32) ≤ nI k) := by
      show ¬ (nI 4 ≤ nI k)
      rw [nI_leI (by decide) (by omega)]; omega
    have hN := tp.2.1
    rw [show dgl T N (f + 1) b x = if 48 ≤ pek T N b ∧ pek T N b ≤ 57 then dgl T N f (b + 1) (10 * x + pek T N b - 48) else (b, x) from rfl]
    rw [i68_4]
    by_cases c1 : 48 ≤ pek T N b ∧ pek T N b ≤ 57
    · have hlt : b < N := pek_lt (T := T) (fun e => by rw [e] at c1; exact absurd c1.1 (by decide))
      have ih := ih (k + 1) (b + 1) (10 * x + pek T N b - 48) (by omega) (by omega)
      have hin := dgl_in (T := T) (N := N) f (b + 1) (10 * x + pek T N b - 48) (by omega)
      rw [if_pos c1]
      rw [show k + 1 + ((dgl T N f (b + 1) (10 * x + pek T N b - 48)).1 - (b + 1)) = k + ((dgl T N f (b + 1) (10 * x + pek T N b - 48)).1 - b) by omega] at ih
      rw [← ih]
      simp only [i68_0, i68_1, i68_2, i68_3, i68_5, i68_6, i68_9, i68_10, i68_13, i68_16, i68_19, i68_20, i68_22, i68_23, i68_24, i68_27, i68_28, i68_30, i68_31, i68_32, i68_33, i68_34, i68_37, i68_38, i68_39, i68_42, i68_45, i68_49, i68_50, i68_51, i68_52, i68_55, i68_56, i68_57, i68_60, i68_61, i68_64, i68_65, i68_66, i68_67, i68_68, i68_e, hc, if_false, ob_co qh_o, k_peek tp hb, k_dig, c1, decide_true, show ¬ (bi_ true = 0) from by decide, tof_gk qh_o, tof_gv qh_o, tiv_3, nI_1, tof_pk3 qh_o, tof_pf3 qh_o, qh_s3, Int32.mul_comm x 10, Option.toList_some, Option.toList_none, List.nil_append, List.cons_append, true_and, and_true, eq_self, true_or, or_true, bi_01, mx_nl_i, mx_nl_r, mx_nl_n, mx_nl_f, mx_nl_d]
    · rw [if_neg c1]
      simp only [i68_0, i68_1, i68_2, i68_3, i68_5, i68_6, i68_9, i68_10, i68_13, i68_16, i68_19, i68_20, i68_22, i68_23, i68_24, i68_27, i68_28, i68_30, i68_31, i68_32, i68_33, i68_34, i68_37, i68_38, i68_39, i68_42, i68_45, i68_49, i68_50, i68_51, i68_52, i68_55, i68_56, i68_57, i68_60, i68_61, i68_64, i68_65, i68_66, i68_67, i68_68, i68_e, hc, if_false, ob_co qh_o, k_peek tp hb, k_dig, c1, decide_false, show (bi_ false = 0) from rfl, if_true, Nat.sub_self, Nat.add_zero, Option.toList_some, Option.toList_none, List.nil_append, List.cons_append, true_and, and_true, eq_self, true_or, or_true, bi_01, mx_nl_i, mx_nl_r, mx_nl_n, mx_nl_f, mx_nl_d]
theorem k_num (tp : TPE h N T) (ha : a ≤ N) (hz : z < 4 + N) : ev_ X (d + 1) 68 [.ref h.length] (QH h w N a z rt R) Q = Q (some (.int (nI z))) (QH h w N (dgl T N 4 a 0).1 (z + 1) rt ((ad4 R z 0 0 0).1, (ad4 R z 0 0 0).2.1, (ad4 R z 0 0 0).2.2.1, upd R.2.2.2 z (dgl T N 4 a 0).2)) := by
  have key := k_num_l (X := X) (d := d) (Q := Q) (w := w) (z := z) (rt := rt) (R := R) tp 4 0 a 0 (by omega) ha
  rw [show (nI 0 : Int32) = 0 from rfl] at key
  have hN := tp.2.1
  have i1 : mx_in (nI z) (4 + N) = true := mx_inN hz (by omega)
  simp only [i68_0, i68_1, i68_2, i68_3, i68_5, i68_6, i68_9, i68_10, i68_13, i68_16, i68_19, i68_20, i68_22, i68_23, i68_24, i68_27, i68_28, i68_30, i68_31, i68_32, i68_33, i68_34, i68_37, i68_38, i68_39, i68_42, i68_45, i68_48, i68_49, i68_50, i68_51, i68_52, i68_55, i68_56, i68_57, i68_60, i68_61, i68_64, i68_65, i68_66, i68_67, i68_68, i68_e, true_and, and_true, eq_self, true_or, or_true, bi_01, mx_nl_i, mx_nl_r, mx_nl_n, mx_nl_f, mx_nl_d]
  rw [key]
  simp only [i68_0, i68_1, i68_2, i68_3, i68_5, i68_6, i68_9, i68_10, i68_13, i68_16, i68_19, i68_20, i68_22, i68_23, i68_24, i68_27, i68_28, i68_30, i68_31, i68_32, i68_33, i68_34, i68_37, i68_38, i68_39, i68_42, i68_45, i68_48, i68_49, i68_50, i68_51, i68_52, i68_55, i68_56, i68_57, i68_60, i68_61, i68_64, i68_65, i68_66, i68_67, i68_68, i68_e, ob_co qh_o, k_step hz hN, nI_pos (show z < 2 ^ 31 by omega), if_false, tof_gk qh_o, tof_gv qh_o, ar_ik qh_4, ar_is qh_4, i1, nI_clamp (show z < 2 ^ 31 by omega), qh_c4, ad4, Option.toList_some, Option.toList_none, List.nil_append, List.cons_append, true_and, and_true, eq_self, true_or, or_true, bi_01, mx_nl_i, mx_nl_r, mx_nl_n, mx_nl_f, mx_nl_d]
end KU2
