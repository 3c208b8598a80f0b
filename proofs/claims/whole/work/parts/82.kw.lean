/-! the component reads as the pure reader does -/
theorem lvl_le {b : Int32} : lvl b ≤ 5 := by
  unfold lvl
  repeat (first | split | exact Nat.le_refl 5 | decide)
def jns (lv N : Nat) : Int32 := if lv = 2 then 1 else nI N
def ans (b : Bool) (x : Nat) : Int32 := if b = true then nI x else -1
section KW2
variable {X : MXX} {h : MXH} {lw : Bool} {N : Nat} {T : Nat → Int32} {rt : Int32}
theorem k_exitF {D a z : Nat} {R : R4} {Q : MXP} {v1 v2 w6 w7 : Value} {j i : Int32} : ex_ X D 65 38 [.ref h.length, v1, v2, .int (-1), .int j, .int i, w6, w7] [] (QH h (wnm lw) N a z rt R) Q = Q (some (.int (-1))) (QH h (wnm lw) N a z rt R) := by
  rw [i65_38]
  by_cases c : j ≤ i
  · simp only [i65_0, i65_1, i65_2, i65_5, i65_6, i65_7, i65_10, i65_11, i65_12, i65_13, i65_14, i65_15, i65_16, i65_19, i65_20, i65_21, i65_22, i65_25, i65_26, i65_29, i65_30, i65_33, i65_35, i65_36, i65_40, i65_42, i65_45, i65_46, i65_49, i65_50, i65_53, i65_56, i65_57, i65_60, i65_61, i65_64, i65_66, i65_67, i65_68, i65_71, i65_72, i65_73, i65_76, i65_77, i65_78, i65_79, i65_80, i65_81, i65_84, i65_86, i65_88, i65_91, i65_92, i65_95, i65_96, i65_98, i65_99, i65_101, i65_104, i65_105, i65_108, i65_111, i65_112, i65_e, c, if_true, true_and, and_true, eq_self, true_or, or_true, bi_01, mx_nl_i, mx_nl_r, mx_nl_n, mx_nl_f, mx_nl_d]
  · simp only [i65_0, i65_1, i65_2, i65_5, i65_6, i65_7, i65_10, i65_11, i65_12, i65_13, i65_14, i65_15, i65_16, i65_19, i65_20, i65_21, i65_22, i65_25, i65_26, i65_29, i65_30, i65_33, i65_35, i65_36, i65_40, i65_42, i65_45, i65_46, i65_49, i65_50, i65_53, i65_56, i65_57, i65_60, i65_61, i65_64, i65_66, i65_67, i65_68, i65_71, i65_72, i65_73, i65_76, i65_77, i65_78, i65_79, i65_80, i65_81, i65_84, i65_86, i65_88, i65_91, i65_92, i65_95, i65_96, i65_98, i65_99, i65_101, i65_104, i65_105, i65_108, i65_111, i65_112, i65_e, c, if_false, show ((-1 : Int32) < 0) from by decide, if_true, true_and, and_true, eq_self, true_or, or_true, bi_01, mx_nl_i, mx_nl_r, mx_nl_n, mx_nl_f, mx_nl_d]
/-- reading of an entry -/
def RE (X : MXX) (h : MXH) (lw : Bool) (N : Nat) (rt : Int32) (w op a n : Nat) (b : Bool) (a' : Nat) (c' : Nat → Int32) (n' z : Nat) (R : R4) : Prop :=
  ∃ z' R' x, EXT R z R' z' ∧ z' + a ≤ z + a' ∧ WF4 R' z' ∧ (b = true → x < z' ∧ SEM c' n n' (VL R' z' x)) ∧
    (∀ D Q, 8 * (5 - op) + 12 - w ≤ D → ev_ X D 65 [.ref h.length, .int (nI w), .int (nI op)] (QH h (wnm lw) N a z rt R) Q = Q (some (.int (ans b x))) (QH h (wnm lw) N a' z' rt R')) ∧
    (w = 5 → ∀ D Q, 8 * (5 - op) + 6 ≤ D → ev_ X D 66 [.ref h.length, .int (nI op)] (QH h (wnm lw) N a z rt R) Q = Q (some (.int (ans b x))) (QH h (wnm lw) N a' z' rt R'))
/-- reading of a loop -/
def RL (X : MXX) (h : MXH) (lw : Bool) (N : Nat) (rt : Int32) (lv op a n0 x0 i : Nat) (b : Bool) (a' : Nat) (c' : Nat → Int32) (n' z : Nat) (R : R4) : Prop :=
  ∃ z' R' x, EXT R z R' z' ∧ z' + a ≤ z + a' ∧ WF4 R' z' ∧ (b = true → x < z' ∧ SEM c' n0 n' (VL R' z' x)) ∧
    (∀ D Q w6 w7, 8 * (5 - op) + 12 - lv ≤ D → ex_ X D 65 38 [.ref h.length, .int (nI lv), .int (nI op), .int (nI x0), .int (jns lv N), .int (nI i), w6, w7] [] (QH h (wnm lw) N a z rt R) Q = Q (some (.int (ans b x))) (QH h (wnm lw) N a' z' rt R'))
/-- the end of a loop -/
theorem k_exit {D a z x lv i : Nat} {op : Nat} {R : R4} {Q : MXP} {w6 w7 : Value} (tp : TPE h N T) (ha : a ≤ N) (hx : x < 2 ^ 31) (hD : 1 ≤ D) (hlv : lv < 5) (hl : ¬ lvl (pek T N a) = lv) : ex_ X D 65 38 [.ref h.length, .int (nI lv), .int (nI op), .int (nI x), .int (jns lv N), .int (nI i), w6, w7] [] (QH h (wnm lw) N a z rt R) Q = Q (some (.int (nI x))) (QH h (wnm lw) N a z rt R) := by
  obtain ⟨D, rfl⟩ : ∃ D', D = D' + 1 := ⟨D - 1, by omega⟩
  have hn : ¬ (nI (lvl (pek T N a)) : Int32) = nI lv := fun e => hl ((nI_eq (by have := lvl_le (b := pek T N a); omega) (by omega)).mp e)
  rw [i65_38]
  by_cases c : jns lv N ≤ nI i
  · simp only [i65_0, i65_1, i65_2, i65_5, i65_6, i65_7, i65_10, i65_11, i65_12, i65_13, i65_14, i65_15, i65_16, i65_19, i65_20, i65_21, i65_22, i65_25, i65_26, i65_29, i65_30, i65_33, i65_35, i65_36, i65_40, i65_42, i65_45, i65_46, i65_49, i65_50, i65_53, i65_56, i65_57, i65_60, i65_61, i65_64, i65_66, i65_67, i65_68, i65_71, i65_72, i65_73, i65_76, i65_77, i65_78, i65_79, i65_80, i65_81, i65_84, i65_86, i65_88, i65_91, i65_92, i65_95, i65_96, i65_98, i65_99, i65_101, i65_104, i65_105, i65_108, i65_111, i65_112, i65_e, c, if_true, true_and, and_true, eq_self, true_or, or_true, bi_01, mx_nl_i, mx_nl_r, mx_nl_n, mx_nl_f, mx_nl_d]
  · simp only [i65_0, i65_1, i65_2, i65_5, i65_6, i65_7, i65_10, i65_11, i65_12, i65_13, i65_14, i65_15, i65_16, i65_19, i65_20, i65_21, i65_22, i65_25, i65_26, i65_29, i65_30, i65_33, i65_35, i65_36, i65_40, i65_42, i65_45, i65_46, i65_49, i65_50, i65_53, i65_56, i65_57, i65_60, i65_61, i65_64, i65_66, i65_67, i65_68, i65_71, i65_72, i65_73, i65_76, i65_77, i65_78, i65_79, i65_80, i65_81, i65_84, i65_86, i65_88, i65_91, i65_92, i65_95, i65_96, i65_98, i65_99, i65_101, i65_104, i65_105, i65_108, i65_111, i65_112, i65_e, c, if_false, nI_pos hx, ob_co qh_o, k_peek tp ha, k_lvl, hn, not_false_eq_true, if_true, Option.toList_some, Option.toList_none, List.nil_append, List.cons_append, true_and, and_true, eq_self, true_or, or_true, bi_01, mx_nl_i, mx_nl_r, mx_nl_n, mx_nl_f, mx_nl_d]
end KW2
