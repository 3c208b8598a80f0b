/-! the reference reads: all of it -/
section RK
variable {X : MXX} {D : Nat} {h : MXH} {Q : MXP} {v : Nat → Int32} {A : Nat → Nat → Int32} {N : Nat} {lw : Bool}
theorem c_unit_n (r : RW h v A) (po : PO v N lw) {i n : Nat} {c : Nat → Int32} {o : Int32} (hi : i ≤ N) (hn : n ≤ i) (p1 : ¬ pek (TT_ A) N i = 33) (p2 : ¬ pek (TT_ A) N i = 40) (p4 : 0 ≤ nmv lw (pek (TT_ A) N i)) : ev_ X (D + 2) 142 [.ref 96] (PH h v c (nI i) (-1) o (nI n)) Q = Q none (PH h v (upd c n (10000 + nmv lw (pek (TT_ A) N i))) (nI (i + 1)) (-1) o (nI (n + 1))) := by
  have hN := po.2.2.2
  have p4' := Int32.not_lt.mpr p4
  simp only [i142_0, i142_1, i142_4, i142_5, i142_6, i142_8, i142_11, i142_12, i142_14, i142_17, i142_18, i142_19, i142_22, i142_23, i142_24, i142_25, i142_28, i142_29, i142_30, i142_33, i142_34, i142_35, i142_38, i142_39, i142_40, i142_43, i142_44, i142_47, i142_48, i142_49, i142_52, i142_53, i142_54, i142_55, i142_56, i142_60, i142_61, i142_64, i142_65, i142_68, i142_69, i142_72, i142_75, i142_78, i142_81, i142_83, i142_84, i142_85, i142_86, i142_89, i142_90, i142_92, i142_93, i142_94, i142_95, i142_96, i142_99, i142_100, i142_101, i142_104, i142_107, i142_110, i142_112, i142_115, i142_116, i142_119, i142_120, i142_121, i142_124, i142_e, c_in, c_isAhead, c_isSheet, c_areRight, bi_eq0, decide_true, decide_false, and_self, if_true, if_false, reduceCtorEq, not_true_eq_false, not_false_eq_true, mx_k0, mx_t0, fa_wide_le, Option.toList_some, Option.toList_none, List.nil_append, List.cons_append, true_and, and_true, eq_self, true_or, or_true, bi_01, mx_nl_i, mx_nl_r, mx_nl_n, mx_nl_f, mx_nl_d, lj0a, lj0b, lj1a, lj1b, lj2a, lj2b, lj3a, lj3b, lj4a, lj4b, lj5a, lj5b, lj6a, lj6b, lj7a, lj7b, lj8a, lj8b, lj9a, lj9b, lj10a, lj10b, lj11a, lj11b, lj12a, lj12b, lj13a, lj13b, lj14a, lj14b, lj15a, lj15b, lj16a, lj16b, lj17a, lj17b, lj18a, lj18b, lj19a, lj19b, ob_co (ph_o r), c_here r po hi, p1, p2, c_nameOf r po, p4', mo_gk (ph_o r), mo_gv (ph_o r), ph_6, nI_1, mo_pk6 (ph_o r), mo_pf6 (ph_o r), ph_w6, c_lay r (show n < 60 by omega)]
theorem c_unit_0 (r : RW h v A) (po : PO v N lw) {i n : Nat} {c : Nat → Int32} {o : Int32} (hi : i ≤ N) (hn : n ≤ i) (p1 : ¬ pek (TT_ A) N i = 33) (p2 : ¬ pek (TT_ A) N i = 40) (p4 : ¬ 0 ≤ nmv lw (pek (TT_ A) N i)) : ev_ X (D + 2) 142 [.ref 96] (PH h v c (nI i) (-1) o (nI n)) Q = if (dgl (TT_ A) N 4 i 0).1 = i then Q none (PH h v c (nI i) (nI i) o (nI n)) else Q none (PH h v (upd c n (dgl (TT_ A) N 4 i 0).2) (nI (dgl (TT_ A) N 4 i 0).1) (-1) o (nI (n + 1))) := by
  have hN := po.2.2.2
  have p4' := Int32.not_le.mp p4
  have hd := dgl_in (T := TT_ A) 4 i 0 hi
  have key := fun (w1 w2 : Value) (hw : mx_nl w2 = true) => c_unit_d (X := X) (D := D) (Q := Q) (w1 := w1) (w2 := w2) (c := c) (o := o) (n := nI n) r po hw 4 i 0 0 (by decide) hi
  simp only [i142_0, i142_1, i142_4, i142_5, i142_6, i142_8, i142_11, i142_12, i142_14, i142_17, i142_18, i142_19, i142_22, i142_23, i142_24, i142_25, i142_28, i142_29, i142_30, i142_33, i142_34, i142_35, i142_38, i142_39, i142_40, i142_43, i142_44, i142_47, i142_48, i142_49, i142_52, i142_53, i142_54, i142_55, i142_56, i142_60, i142_61, i142_64, i142_65, i142_68, i142_69, i142_72, i142_75, i142_78, i142_81, i142_83, i142_84, i142_85, i142_86, i142_89, i142_90, i142_92, i142_93, i142_94, i142_95, i142_96, i142_99, i142_100, i142_101, i142_104, i142_107, i142_110, i142_112, i142_115, i142_116, i142_119, i142_120, i142_121, i142_124, i142_e, c_in, c_isAhead, c_isSheet, c_areRight, bi_eq0, decide_true, decide_false, and_self, if_true, if_false, reduceCtorEq, not_true_eq_false, not_false_eq_true, mx_k0, mx_t0, fa_wide_le, Option.toList_some, Option.toList_none, List.nil_append, List.cons_append, true_and, and_true, eq_self, true_or, or_true, bi_01, mx_nl_i, mx_nl_r, mx_nl_n, mx_nl_f, mx_nl_d, lj0a, lj0b, lj1a, lj1b, lj2a, lj2b, lj3a, lj3b, lj4a, lj4b, lj5a, lj5b, lj6a, lj6b, lj7a, lj7b, lj8a, lj8b, lj9a, lj9b, lj10a, lj10b, lj11a, lj11b, lj12a, lj12b, lj13a, lj13b, lj14a, lj14b, lj15a, lj15b, lj16a, lj16b, lj17a, lj17b, lj18a, lj18b, lj19a, lj19b, ob_co (ph_o r), c_here r po hi, p1, p2, c_nameOf r po, p4']
  refine (key _ _ rfl).trans ?_
  by_cases q : (dgl (TT_ A) N 4 i 0).1 = i
  · rw [if_pos q, q, Nat.sub_self]
    simp only [i142_0, i142_1, i142_4, i142_5, i142_6, i142_8, i142_11, i142_12, i142_14, i142_17, i142_18, i142_19, i142_22, i142_23, i142_24, i142_25, i142_28, i142_29, i142_30, i142_33, i142_34, i142_35, i142_38, i142_39, i142_40, i142_43, i142_44, i142_47, i142_48, i142_49, i142_52, i142_53, i142_54, i142_55, i142_56, i142_58, i142_60, i142_61, i142_64, i142_65, i142_68, i142_69, i142_72, i142_75, i142_78, i142_81, i142_83, i142_84, i142_85, i142_86, i142_89, i142_90, i142_92, i142_93, i142_94, i142_95, i142_96, i142_99, i142_100, i142_101, i142_104, i142_107, i142_110, i142_112, i142_115, i142_116, i142_119, i142_120, i142_121, i142_124, i142_e, c_in, c_isAhead, c_isSheet, c_areRight, bi_eq0, decide_true, decide_false, and_self, if_true, if_false, reduceCtorEq, not_true_eq_false, not_false_eq_true, mx_k0, mx_t0, fa_wide_le, Option.toList_some, Option.toList_none, List.nil_append, List.cons_append, true_and, and_true, eq_self, true_or, or_true, bi_01, mx_nl_i, mx_nl_r, mx_nl_n, mx_nl_f, mx_nl_d, lj0a, lj0b, lj1a, lj1b, lj2a, lj2b, lj3a, lj3b, lj4a, lj4b, lj5a, lj5b, lj6a, lj6b, lj7a, lj7b, lj8a, lj8b, lj9a, lj9b, lj10a, lj10b, lj11a, lj11b, lj12a, lj12b, lj13a, lj13b, lj14a, lj14b, lj15a, lj15b, lj16a, lj16b, lj17a, lj17b, lj18a, lj18b, lj19a, lj19b, show ((nI (0 + 0) : Int32) = 0) from rfl, ob_co (ph_o r), c_wrong r, c_layF r (show i ≤ 50 by omega)]
  · rw [if_neg q]
    have hz : ¬ (nI (0 + ((dgl (TT_ A) N 4 i 0).1 - i)) : Int32) = 0 := nI_ne0 (by omega) (by omega)
    simp only [i142_0, i142_1, i142_4, i142_5, i142_6, i142_8, i142_11, i142_12, i142_14, i142_17, i142_18, i142_19, i142_22, i142_23, i142_24, i142_25, i142_28, i142_29, i142_30, i142_33, i142_34, i142_35, i142_38, i142_39, i142_40, i142_43, i142_44, i142_47, i142_48, i142_49, i142_52, i142_53, i142_54, i142_55, i142_56, i142_58, i142_60, i142_61, i142_64, i142_65, i142_68, i142_69, i142_72, i142_75, i142_78, i142_81, i142_83, i142_84, i142_85, i142_86, i142_89, i142_90, i142_92, i142_93, i142_94, i142_95, i142_96, i142_99, i142_100, i142_101, i142_104, i142_107, i142_110, i142_112, i142_115, i142_116, i142_119, i142_120, i142_121, i142_124, i142_e, c_in, c_isAhead, c_isSheet, c_areRight, bi_eq0, decide_true, decide_false, and_self, if_true, if_false, reduceCtorEq, not_true_eq_false, not_false_eq_true, mx_k0, mx_t0, fa_wide_le, Option.toList_some, Option.toList_none, List.nil_append, List.cons_append, true_and, and_true, eq_self, true_or, or_true, bi_01, mx_nl_i, mx_nl_r, mx_nl_n, mx_nl_f, mx_nl_d, lj0a, lj0b, lj1a, lj1b, lj2a, lj2b, lj3a, lj3b, lj4a, lj4b, lj5a, lj5b, lj6a, lj6b, lj7a, lj7b, lj8a, lj8b, lj9a, lj9b, lj10a, lj10b, lj11a, lj11b, lj12a, lj12b, lj13a, lj13b, lj14a, lj14b, lj15a, lj15b, lj16a, lj16b, lj17a, lj17b, lj18a, lj18b, lj19a, lj19b, hz, ob_co (ph_o r), c_lay r (show n < 60 by omega)]
set_option maxHeartbeats 1000000 in
theorem rd_ref (r : RW h v A) (po : PO v N lw) : ∀ f w op a c n b a' c' n', rd (TT_ A) N lw f w op a c n = some (b, a', c', n') → w ≤ 10 → a ≤ N → n ≤ a → op ≤ 5 → ∀ D w1 Q, 8 * (5 - op) + 9 - (if w ≤ 5 then w else w - 6) ≤ D → GO X w w1 D (PH h v c (nI a) (-1) (nI op) (nI n)) Q = Q none (PH h v c' (nI a') (flt b a') (nI op) (nI n')) := by
  have hN := po.2.2.2
  intro f
  induction f with
  | zero => intro w op a c n b a' c' n' hh; cases hh
  | succ f ih =>
    intro w op a c n b a' c' n' hh hw ha hn hop D w1 Q hD
    unfold rd at hh
    by_cases k1 : w < 5
    · rw [if_pos k1] at hh
      rw [if_pos (by omega)] at hD
      obtain ⟨D, rfl⟩ : ∃ D', D = D' + 3 := ⟨D - 3, by omega⟩
      rw [go_lv r k1]
      have back : ∀ (q : MXH), ex_ X (D + 2 + 1) (136 + w) 4 (if w < 2 then [.ref 96] else [.ref 96, .double 0]) (([] : List Value) ++ []) q Q = GO X (6 + w) (.double 0) (D + 3) q Q := by
        intro q
        match w, k1 with
        | 0, _ => rfl
        | 1, _ => rfl
        | 2, _ => rfl
        | 3, _ => rfl
        | 4, _ => rfl
        | n + 5, hw => omega
      rcases mtc_c hh with ⟨a1, c1, n1, e1, e2⟩ | ⟨a1, c1, n1, e1, e2⟩
      · have i1 := rd_in _ _ _ _ _ _ _ _ _ _ e1 (by omega) ha
        rw [ih _ _ _ _ _ _ _ _ _ e1 (by omega) ha hn hop (D + 2) (.double 0) _ (by split <;> omega)]
        show ex_ X (D + 2 + 1) (136 + w) 4 _ (([] : List Value) ++ []) _ Q = _
        rw [back]
        exact ih _ _ _ _ _ _ _ _ _ e2 (by omega) i1.2.1 (by omega) hop (D + 3) (.double 0) Q (by rw [if_neg (by omega)]; omega)
      · have i1 := rd_in _ _ _ _ _ _ _ _ _ _ e1 (by omega) ha
        rw [ih _ _ _ _ _ _ _ _ _ e1 (by omega) ha hn hop (D + 2) (.double 0) _ (by split <;> omega)]
        cases e2
        show ex_ X (D + 2 + 1) (136 + w) 4 _ (([] : List Value) ++ []) _ Q = _
        rw [back]
        exact go_lf (D := D + 1) r k1 (by omega)
    · rw [if_neg k1] at hh
      by_cases k2 : w = 5
      · rw [if_pos k2] at hh
        subst k2
        rw [if_pos (by omega)] at hD
        have x1 : (nI op + 1 : Int32) = nI (op + 1) := nI_1 op
        have x2 : (nI (op + 1) - 1 : Int32) = nI op := nI_pred op
        obtain ⟨D, rfl⟩ : ∃ D', D = D' + 4 := ⟨D - 4, by omega⟩
        by_cases p1 : pek (TT_ A) N a = 33
        · rw [if_pos p1] at hh
          have hlt : a < N := pek_lt (T := TT_ A) (by rw [p1]; decide)
          by_cases o5 : op = 5
          · rw [if_pos o5] at hh
            subst o5
            cases hh
            show ev_ X (D + 4) 142 _ _ Q = _
            simp only [i142_0, i142_1, i142_4, i142_5, i142_6, i142_8, i142_11, i142_12, i142_14, i142_17, i142_18, i142_19, i142_22, i142_23, i142_24, i142_25, i142_28, i142_29, i142_30, i142_33, i142_34, i142_35, i142_38, i142_39, i142_40, i142_43, i142_44, i142_47, i142_48, i142_49, i142_52, i142_53, i142_54, i142_55, i142_56, i142_60, i142_61, i142_64, i142_65, i142_68, i142_69, i142_72, i142_75, i142_78, i142_81, i142_83, i142_84, i142_85, i142_86, i142_89, i142_90, i142_92, i142_93, i142_94, i142_95, i142_96, i142_99, i142_100, i142_101, i142_104, i142_107, i142_110, i142_112, i142_115, i142_116, i142_119, i142_120, i142_121, i142_124, i142_e, i141_0, i141_1, i141_4, i141_5, i141_8, i141_9, i141_12, i141_13, i141_14, i141_15, i141_18, i141_19, i141_20, i141_23, i141_24, i141_25, i141_28, i141_29, i141_30, i141_33, i141_34, i141_36, i141_39, i141_40, i141_43, i141_44, i141_47, i141_50, i141_53, i141_54, i141_57, i141_58, i141_60, i141_63, i141_66, i141_67, i141_70, i141_71, i141_72, i141_75, i141_76, i141_77, i141_80, i141_e, c_in, c_isAhead, c_isSheet, c_areRight, bi_eq0, decide_true, decide_false, and_self, if_true, if_false, reduceCtorEq, not_true_eq_false, not_false_eq_true, mx_k0, mx_t0, fa_wide_le, Option.toList_some, Option.toList_none, List.nil_append, List.cons_append, true_and, and_true, eq_self, true_or, or_true, bi_01, mx_nl_i, mx_nl_r, mx_nl_n, mx_nl_f, mx_nl_d, lj0a, lj0b, lj1a, lj1b, lj2a, lj2b, lj3a, lj3b, lj4a, lj4b, lj5a, lj5b, lj6a, lj6b, lj7a, lj7b, lj8a, lj8b, lj9a, lj9b, lj10a, lj10b, lj11a, lj11b, lj12a, lj12b, lj13a, lj13b, lj14a, lj14b, lj15a, lj15b, lj16a, lj16b, lj17a, lj17b, lj18a, lj18b, lj19a, lj19b, ob_co (ph_o r), c_here r po ha, p1, mo_gk (ph_o r), mo_gv (ph_o r), ph_9, show ((nI 5 : Int32) = 5) from rfl, c_wrong r]
            rfl
          · rw [if_neg o5] at hh
            have o5' : ¬ (nI op : Int32) = 5 := fun e => o5 ((nI_eq (b := 5) (by omega) (by decide)).mp e)
            obtain ⟨D, rfl⟩ : ∃ D', D = D' + 4 := ⟨D - 4, by omega⟩
            have st : ev_ X (D + 4 + 4) 142 [.ref 96] (PH h v c (nI a) (-1) (nI op) (nI n)) Q = GO X 5 .null (D + 6) (PH h v c (nI (a + 1)) (-1) (nI (op + 1)) (nI n)) (fun q h' => ex_ X (D + 7) 141 43 [.ref 96, .int 33] (q.toList ++ []) h' (fun q h' => ex_ X (D + 4 + 4) 142 22 [.ref 96, .int 33, .double 0, .double 0, .double 0] (q.toList ++ []) h' Q)) := by
              simp only [GO, i142_0, i142_1, i142_4, i142_5, i142_6, i142_8, i142_11, i142_12, i142_14, i142_17, i142_18, i142_19, i142_23, i142_24, i142_25, i142_28, i142_29, i142_30, i142_33, i142_34, i142_35, i142_38, i142_39, i142_40, i142_43, i142_44, i142_47, i142_48, i142_49, i142_52, i142_53, i142_54, i142_55, i142_56, i142_60, i142_61, i142_64, i142_65, i142_68, i142_69, i142_72, i142_75, i142_78, i142_81, i142_83, i142_84, i142_85, i142_86, i142_89, i142_90, i142_92, i142_93, i142_94, i142_95, i142_96, i142_99, i142_100, i142_101, i142_104, i142_107, i142_110, i142_112, i142_115, i142_116, i142_119, i142_120, i142_121, i142_124, i142_e, i141_0, i141_1, i141_4, i141_5, i141_8, i141_9, i141_12, i141_13, i141_14, i141_15, i141_18, i141_19, i141_20, i141_23, i141_24, i141_25, i141_28, i141_29, i141_30, i141_33, i141_34, i141_36, i141_39, i141_40, i141_44, i141_47, i141_50, i141_53, i141_54, i141_57, i141_58, i141_60, i141_63, i141_66, i141_67, i141_70, i141_71, i141_72, i141_75, i141_76, i141_77, i141_80, i141_e, c_in, c_isAhead, c_isSheet, c_areRight, bi_eq0, decide_true, decide_false, and_self, if_true, if_false, reduceCtorEq, not_true_eq_false, not_false_eq_true, mx_k0, mx_t0, fa_wide_le, Option.toList_some, Option.toList_none, List.nil_append, List.cons_append, true_and, and_true, eq_self, true_or, or_true, bi_01, mx_nl_i, mx_nl_r, mx_nl_n, mx_nl_f, mx_nl_d, lj0a, lj0b, lj1a, lj1b, lj2a, lj2b, lj3a, lj3b, lj4a, lj4b, lj5a, lj5b, lj6a, lj6b, lj7a, lj7b, lj8a, lj8b, lj9a, lj9b, lj10a, lj10b, lj11a, lj11b, lj12a, lj12b, lj13a, lj13b, lj14a, lj14b, lj15a, lj15b, lj16a, lj16b, lj17a, lj17b, lj18a, lj18b, lj19a, lj19b, ob_co (ph_o r), c_here r po ha, p1, mo_gk (ph_o r), mo_gv (ph_o r), ph_9, ph_6, o5', x1, mo_pk9 (ph_o r), mo_pf9 (ph_o r), ph_w9, nI_1, mo_pk6 (ph_o r), mo_pf6 (ph_o r), ph_w6]
            show ev_ X (D + 4 + 4) 142 _ _ Q = _
            rw [st]
            rcases mtc_c hh with ⟨a1, c1, n1, e1, e2⟩ | ⟨a1, c1, n1, e1, e2⟩
            · have i1 := rd_in _ _ _ _ _ _ _ _ _ _ e1 (by omega) hlt
              rw [ih _ _ _ _ _ _ _ _ _ e1 (by omega) hlt (by omega) (by omega) (D + 6) .null _ (by rw [if_pos (by omega)]; omega)]
              cases e2
              show ex_ X (D + 7) 141 43 [.ref 96, .int 33] (([] : List Value) ++ []) (PH h v c1 (nI a') (-1) (nI (op + 1)) (nI n1)) _ = _
              simp only [i141_0, i141_1, i141_4, i141_5, i141_8, i141_9, i141_12, i141_13, i141_14, i141_15, i141_18, i141_19, i141_20, i141_23, i141_24, i141_25, i141_28, i141_29, i141_30, i141_33, i141_34, i141_36, i141_39, i141_40, i141_43, i141_44, i141_47, i141_50, i141_53, i141_54, i141_57, i141_58, i141_60, i141_63, i141_66, i141_67, i141_70, i141_71, i141_72, i141_75, i141_76, i141_77, i141_80, i141_e, i142_0, i142_1, i142_4, i142_5, i142_6, i142_8, i142_11, i142_12, i142_14, i142_17, i142_18, i142_19, i142_22, i142_23, i142_24, i142_25, i142_28, i142_29, i142_30, i142_33, i142_34, i142_35, i142_38, i142_39, i142_40, i142_43, i142_44, i142_47, i142_48, i142_49, i142_52, i142_53, i142_54, i142_55, i142_56, i142_58, i142_60, i142_61, i142_64, i142_65, i142_68, i142_69, i142_72, i142_75, i142_78, i142_81, i142_83, i142_84, i142_85, i142_86, i142_89, i142_90, i142_92, i142_93, i142_94, i142_95, i142_96, i142_99, i142_100, i142_101, i142_104, i142_107, i142_110, i142_112, i142_115, i142_116, i142_119, i142_120, i142_121, i142_124, i142_e, c_in, c_isAhead, c_isSheet, c_areRight, bi_eq0, decide_true, decide_false, and_self, if_true, if_false, reduceCtorEq, not_true_eq_false, not_false_eq_true, mx_k0, mx_t0, fa_wide_le, Option.toList_some, Option.toList_none, List.nil_append, List.cons_append, true_and, and_true, eq_self, true_or, or_true, bi_01, mx_nl_i, mx_nl_r, mx_nl_n, mx_nl_f, mx_nl_d, lj0a, lj0b, lj1a, lj1b, lj2a, lj2b, lj3a, lj3b, lj4a, lj4b, lj5a, lj5b, lj6a, lj6b, lj7a, lj7b, lj8a, lj8b, lj9a, lj9b, lj10a, lj10b, lj11a, lj11b, lj12a, lj12b, lj13a, lj13b, lj14a, lj14b, lj15a, lj15b, lj16a, lj16b, lj17a, lj17b, lj18a, lj18b, lj19a, lj19b, ob_co (ph_o r), c_lay r (show n1 < 60 by omega), mo_gk (ph_o r), mo_gv (ph_o r), ph_9, x2, mo_pk9 (ph_o r), mo_pf9 (ph_o r), ph_w9]
              rfl
            · have i1 := rd_in _ _ _ _ _ _ _ _ _ _ e1 (by omega) hlt
              rw [ih _ _ _ _ _ _ _ _ _ e1 (by omega) hlt (by omega) (by omega) (D + 6) .null _ (by rw [if_pos (by omega)]; omega)]
              cases e2
              show ex_ X (D + 7) 141 43 [.ref 96, .int 33] (([] : List Value) ++ []) (PH h v c' (nI a') (nI a') (nI (op + 1)) (nI n')) _ = _
              simp only [i141_0, i141_1, i141_4, i141_5, i141_8, i141_9, i141_12, i141_13, i141_14, i141_15, i141_18, i141_19, i141_20, i141_23, i141_24, i141_25, i141_28, i141_29, i141_30, i141_33, i141_34, i141_36, i141_39, i141_40, i141_43, i141_44, i141_47, i141_50, i141_53, i141_54, i141_57, i141_58, i141_60, i141_63, i141_66, i141_67, i141_70, i141_71, i141_72, i141_75, i141_76, i141_77, i141_80, i141_e, i142_0, i142_1, i142_4, i142_5, i142_6, i142_8, i142_11, i142_12, i142_14, i142_17, i142_18, i142_19, i142_22, i142_23, i142_24, i142_25, i142_28, i142_29, i142_30, i142_33, i142_34, i142_35, i142_38, i142_39, i142_40, i142_43, i142_44, i142_47, i142_48, i142_49, i142_52, i142_53, i142_54, i142_55, i142_56, i142_58, i142_60, i142_61, i142_64, i142_65, i142_68, i142_69, i142_72, i142_75, i142_78, i142_81, i142_83, i142_84, i142_85, i142_86, i142_89, i142_90, i142_92, i142_93, i142_94, i142_95, i142_96, i142_99, i142_100, i142_101, i142_104, i142_107, i142_110, i142_112, i142_115, i142_116, i142_119, i142_120, i142_121, i142_124, i142_e, c_in, c_isAhead, c_isSheet, c_areRight, bi_eq0, decide_true, decide_false, and_self, if_true, if_false, reduceCtorEq, not_true_eq_false, not_false_eq_true, mx_k0, mx_t0, fa_wide_le, Option.toList_some, Option.toList_none, List.nil_append, List.cons_append, true_and, and_true, eq_self, true_or, or_true, bi_01, mx_nl_i, mx_nl_r, mx_nl_n, mx_nl_f, mx_nl_d, lj0a, lj0b, lj1a, lj1b, lj2a, lj2b, lj3a, lj3b, lj4a, lj4b, lj5a, lj5b, lj6a, lj6b, lj7a, lj7b, lj8a, lj8b, lj9a, lj9b, lj10a, lj10b, lj11a, lj11b, lj12a, lj12b, lj13a, lj13b, lj14a, lj14b, lj15a, lj15b, lj16a, lj16b, lj17a, lj17b, lj18a, lj18b, lj19a, lj19b, ob_co (ph_o r), c_layF r (show a' ≤ 50 by omega), mo_gk (ph_o r), mo_gv (ph_o r), ph_9, x2, mo_pk9 (ph_o r), mo_pf9 (ph_o r), ph_w9]
              rfl
        · rw [if_neg p1] at hh
          by_cases p2 : pek (TT_ A) N a = 40
          · rw [if_pos p2] at hh
            have hlt : a < N := pek_lt (T := TT_ A) (by rw [p2]; decide)
            by_cases o5 : op = 5
            · rw [if_pos o5] at hh
              subst o5
              cases hh
              show ev_ X (D + 4) 142 _ _ Q = _
              simp only [i142_0, i142_1, i142_4, i142_5, i142_6, i142_8, i142_11, i142_12, i142_14, i142_17, i142_18, i142_19, i142_22, i142_23, i142_24, i142_25, i142_28, i142_29, i142_30, i142_33, i142_34, i142_35, i142_38, i142_39, i142_40, i142_43, i142_44, i142_47, i142_48, i142_49, i142_52, i142_53, i142_54, i142_55, i142_56, i142_60, i142_61, i142_64, i142_65, i142_68, i142_69, i142_72, i142_75, i142_78, i142_81, i142_83, i142_84, i142_85, i142_86, i142_89, i142_90, i142_92, i142_93, i142_94, i142_95, i142_96, i142_99, i142_100, i142_101, i142_104, i142_107, i142_110, i142_112, i142_115, i142_116, i142_119, i142_120, i142_121, i142_124, i142_e, i141_0, i141_1, i141_4, i141_5, i141_8, i141_9, i141_12, i141_13, i141_14, i141_15, i141_18, i141_19, i141_20, i141_23, i141_24, i141_25, i141_28, i141_29, i141_30, i141_33, i141_34, i141_36, i141_39, i141_40, i141_43, i141_44, i141_47, i141_50, i141_53, i141_54, i141_57, i141_58, i141_60, i141_63, i141_66, i141_67, i141_70, i141_71, i141_72, i141_75, i141_76, i141_77, i141_80, i141_e, c_in, c_isAhead, c_isSheet, c_areRight, bi_eq0, decide_true, decide_false, and_self, if_true, if_false, reduceCtorEq, not_true_eq_false, not_false_eq_true, mx_k0, mx_t0, fa_wide_le, Option.toList_some, Option.toList_none, List.nil_append, List.cons_append, true_and, and_true, eq_self, true_or, or_true, bi_01, mx_nl_i, mx_nl_r, mx_nl_n, mx_nl_f, mx_nl_d, lj0a, lj0b, lj1a, lj1b, lj2a, lj2b, lj3a, lj3b, lj4a, lj4b, lj5a, lj5b, lj6a, lj6b, lj7a, lj7b, lj8a, lj8b, lj9a, lj9b, lj10a, lj10b, lj11a, lj11b, lj12a, lj12b, lj13a, lj13b, lj14a, lj14b, lj15a, lj15b, lj16a, lj16b, lj17a, lj17b, lj18a, lj18b, lj19a, lj19b, ob_co (ph_o r), c_here r po ha, p2, show ¬ ((40 : Int32) = 33) from by decide, mo_gk (ph_o r), mo_gv (ph_o r), ph_9, show ((nI 5 : Int32) = 5) from rfl, c_wrong r]
              rfl
            · rw [if_neg o5] at hh
              have o5' : ¬ (nI op : Int32) = 5 := fun e => o5 ((nI_eq (b := 5) (by omega) (by decide)).mp e)
              obtain ⟨D, rfl⟩ : ∃ D', D = D' + 7 := ⟨D - 7, by omega⟩
              have st : ev_ X (D + 7 + 4) 142 [.ref 96] (PH h v c (nI a) (-1) (nI op) (nI n)) Q = GO X 0 .null (D + 9) (PH h v c (nI (a + 1)) (-1) (nI (op + 1)) (nI n)) (fun q h' => ex_ X (D + 10) 141 57 [.ref 96, .int 40] (q.toList ++ []) h' (fun q h' => ex_ X (D + 7 + 4) 142 22 [.ref 96, .int 40, .double 0, .double 0, .double 0] (q.toList ++ []) h' Q)) := by
                simp only [GO, i142_0, i142_1, i142_4, i142_5, i142_6, i142_8, i142_11, i142_12, i142_14, i142_17, i142_18, i142_19, i142_23, i142_24, i142_25, i142_28, i142_29, i142_30, i142_33, i142_34, i142_35, i142_38, i142_39, i142_40, i142_43, i142_44, i142_47, i142_48, i142_49, i142_52, i142_53, i142_54, i142_55, i142_56, i142_60, i142_61, i142_64, i142_65, i142_68, i142_69, i142_72, i142_75, i142_78, i142_81, i142_83, i142_84, i142_85, i142_86, i142_89, i142_90, i142_92, i142_93, i142_94, i142_95, i142_96, i142_99, i142_100, i142_101, i142_104, i142_107, i142_110, i142_112, i142_115, i142_116, i142_119, i142_120, i142_121, i142_124, i142_e, i141_0, i141_1, i141_4, i141_5, i141_8, i141_9, i141_12, i141_13, i141_14, i141_15, i141_18, i141_19, i141_20, i141_23, i141_24, i141_25, i141_28, i141_29, i141_30, i141_33, i141_34, i141_36, i141_39, i141_40, i141_43, i141_44, i141_47, i141_50, i141_53, i141_54, i141_58, i141_60, i141_63, i141_66, i141_67, i141_70, i141_71, i141_72, i141_75, i141_76, i141_77, i141_80, i141_e, c_in, c_isAhead, c_isSheet, c_areRight, bi_eq0, decide_true, decide_false, and_self, if_true, if_false, reduceCtorEq, not_true_eq_false, not_false_eq_true, mx_k0, mx_t0, fa_wide_le, Option.toList_some, Option.toList_none, List.nil_append, List.cons_append, true_and, and_true, eq_self, true_or, or_true, bi_01, mx_nl_i, mx_nl_r, mx_nl_n, mx_nl_f, mx_nl_d, lj0a, lj0b, lj1a, lj1b, lj2a, lj2b, lj3a, lj3b, lj4a, lj4b, lj5a, lj5b, lj6a, lj6b, lj7a, lj7b, lj8a, lj8b, lj9a, lj9b, lj10a, lj10b, lj11a, lj11b, lj12a, lj12b, lj13a, lj13b, lj14a, lj14b, lj15a, lj15b, lj16a, lj16b, lj17a, lj17b, lj18a, lj18b, lj19a, lj19b, ob_co (ph_o r), c_here r po ha, p2, show ¬ ((40 : Int32) = 33) from by decide, mo_gk (ph_o r), mo_gv (ph_o r), ph_9, ph_6, o5', x1, mo_pk9 (ph_o r), mo_pf9 (ph_o r), ph_w9, nI_1, mo_pk6 (ph_o r), mo_pf6 (ph_o r), ph_w6]
              show ev_ X (D + 7 + 4) 142 _ _ Q = _
              rw [st]
              rcases mtc_c hh with ⟨a1, c1, n1, e1, e2⟩ | ⟨a1, c1, n1, e1, e2⟩
              · have i1 := rd_in _ _ _ _ _ _ _ _ _ _ e1 (by omega) hlt
                rw [ih _ _ _ _ _ _ _ _ _ e1 (by omega) hlt (by omega) (by omega) (D + 9) .null _ (by rw [if_pos (by omega)]; omega)]
                show ex_ X (D + 10) 141 57 [.ref 96, .int 40] (([] : List Value) ++ []) (PH h v c1 (nI a1) (-1) (nI (op + 1)) (nI n1)) _ = _
                by_cases p3 : pek (TT_ A) N a1 = 41
                · rw [if_pos p3] at e2
                  cases e2
                  simp only [i141_0, i141_1, i141_4, i141_5, i141_8, i141_9, i141_12, i141_13, i141_14, i141_15, i141_18, i141_19, i141_20, i141_23, i141_24, i141_25, i141_28, i141_29, i141_30, i141_33, i141_34, i141_36, i141_39, i141_40, i141_43, i141_44, i141_47, i141_50, i141_53, i141_54, i141_57, i141_58, i141_60, i141_63, i141_66, i141_67, i141_70, i141_71, i141_72, i141_75, i141_76, i141_77, i141_80, i141_e, i142_0, i142_1, i142_4, i142_5, i142_6, i142_8, i142_11, i142_12, i142_14, i142_17, i142_18, i142_19, i142_22, i142_23, i142_24, i142_25, i142_28, i142_29, i142_30, i142_33, i142_34, i142_35, i142_38, i142_39, i142_40, i142_43, i142_44, i142_47, i142_48, i142_49, i142_52, i142_53, i142_54, i142_55, i142_56, i142_58, i142_60, i142_61, i142_64, i142_65, i142_68, i142_69, i142_72, i142_75, i142_78, i142_81, i142_83, i142_84, i142_85, i142_86, i142_89, i142_90, i142_92, i142_93, i142_94, i142_95, i142_96, i142_99, i142_100, i142_101, i142_104, i142_107, i142_110, i142_112, i142_115, i142_116, i142_119, i142_120, i142_121, i142_124, i142_e, c_in, c_isAhead, c_isSheet, c_areRight, bi_eq0, decide_true, decide_false, and_self, if_true, if_false, reduceCtorEq, not_true_eq_false, not_false_eq_true, mx_k0, mx_t0, fa_wide_le, Option.toList_some, Option.toList_none, List.nil_append, List.cons_append, true_and, and_true, eq_self, true_or, or_true, bi_01, mx_nl_i, mx_nl_r, mx_nl_n, mx_nl_f, mx_nl_d, lj0a, lj0b, lj1a, lj1b, lj2a, lj2b, lj3a, lj3b, lj4a, lj4b, lj5a, lj5b, lj6a, lj6b, lj7a, lj7b, lj8a, lj8b, lj9a, lj9b, lj10a, lj10b, lj11a, lj11b, lj12a, lj12b, lj13a, lj13b, lj14a, lj14b, lj15a, lj15b, lj16a, lj16b, lj17a, lj17b, lj18a, lj18b, lj19a, lj19b, ob_co (ph_o r), c_takes r po i1.2.1, p3, show ¬ ((1 : Int32) = 0) from by decide, mo_gk (ph_o r), mo_gv (ph_o r), ph_9, x2, mo_pk9 (ph_o r), mo_pf9 (ph_o r), ph_w9]
                  rfl
                · rw [if_neg p3] at e2
                  cases e2
                  simp only [i141_0, i141_1, i141_4, i141_5, i141_8, i141_9, i141_12, i141_13, i141_14, i141_15, i141_18, i141_19, i141_20, i141_23, i141_24, i141_25, i141_28, i141_29, i141_30, i141_33, i141_34, i141_36, i141_39, i141_40, i141_43, i141_44, i141_47, i141_50, i141_53, i141_54, i141_57, i141_58, i141_60, i141_63, i141_66, i141_67, i141_70, i141_71, i141_72, i141_75, i141_76, i141_77, i141_80, i141_e, i142_0, i142_1, i142_4, i142_5, i142_6, i142_8, i142_11, i142_12, i142_14, i142_17, i142_18, i142_19, i142_22, i142_23, i142_24, i142_25, i142_28, i142_29, i142_30, i142_33, i142_34, i142_35, i142_38, i142_39, i142_40, i142_43, i142_44, i142_47, i142_48, i142_49, i142_52, i142_53, i142_54, i142_55, i142_56, i142_58, i142_60, i142_61, i142_64, i142_65, i142_68, i142_69, i142_72, i142_75, i142_78, i142_81, i142_83, i142_84, i142_85, i142_86, i142_89, i142_90, i142_92, i142_93, i142_94, i142_95, i142_96, i142_99, i142_100, i142_101, i142_104, i142_107, i142_110, i142_112, i142_115, i142_116, i142_119, i142_120, i142_121, i142_124, i142_e, c_in, c_isAhead, c_isSheet, c_areRight, bi_eq0, decide_true, decide_false, and_self, if_true, if_false, reduceCtorEq, not_true_eq_false, not_false_eq_true, mx_k0, mx_t0, fa_wide_le, Option.toList_some, Option.toList_none, List.nil_append, List.cons_append, true_and, and_true, eq_self, true_or, or_true, bi_01, mx_nl_i, mx_nl_r, mx_nl_n, mx_nl_f, mx_nl_d, lj0a, lj0b, lj1a, lj1b, lj2a, lj2b, lj3a, lj3b, lj4a, lj4b, lj5a, lj5b, lj6a, lj6b, lj7a, lj7b, lj8a, lj8b, lj9a, lj9b, lj10a, lj10b, lj11a, lj11b, lj12a, lj12b, lj13a, lj13b, lj14a, lj14b, lj15a, lj15b, lj16a, lj16b, lj17a, lj17b, lj18a, lj18b, lj19a, lj19b, ob_co (ph_o r), c_takes r po i1.2.1, p3, c_wrong r, mo_gk (ph_o r), mo_gv (ph_o r), ph_9, x2, mo_pk9 (ph_o r), mo_pf9 (ph_o r), ph_w9]
                  rfl
              · have i1 := rd_in _ _ _ _ _ _ _ _ _ _ e1 (by omega) hlt
                rw [ih _ _ _ _ _ _ _ _ _ e1 (by omega) hlt (by omega) (by omega) (D + 9) .null _ (by rw [if_pos (by omega)]; omega)]
                cases e2
                show ex_ X (D + 10) 141 57 [.ref 96, .int 40] (([] : List Value) ++ []) (PH h v c' (nI a') (nI a') (nI (op + 1)) (nI n')) _ = _
                simp only [i141_0, i141_1, i141_4, i141_5, i141_8, i141_9, i141_12, i141_13, i141_14, i141_15, i141_18, i141_19, i141_20, i141_23, i141_24, i141_25, i141_28, i141_29, i141_30, i141_33, i141_34, i141_36, i141_39, i141_40, i141_43, i141_44, i141_47, i141_50, i141_53, i141_54, i141_57, i141_58, i141_60, i141_63, i141_66, i141_67, i141_70, i141_71, i141_72, i141_75, i141_76, i141_77, i141_80, i141_e, i142_0, i142_1, i142_4, i142_5, i142_6, i142_8, i142_11, i142_12, i142_14, i142_17, i142_18, i142_19, i142_22, i142_23, i142_24, i142_25, i142_28, i142_29, i142_30, i142_33, i142_34, i142_35, i142_38, i142_39, i142_40, i142_43, i142_44, i142_47, i142_48, i142_49, i142_52, i142_53, i142_54, i142_55, i142_56, i142_58, i142_60, i142_61, i142_64, i142_65, i142_68, i142_69, i142_72, i142_75, i142_78, i142_81, i142_83, i142_84, i142_85, i142_86, i142_89, i142_90, i142_92, i142_93, i142_94, i142_95, i142_96, i142_99, i142_100, i142_101, i142_104, i142_107, i142_110, i142_112, i142_115, i142_116, i142_119, i142_120, i142_121, i142_124, i142_e, c_in, c_isAhead, c_isSheet, c_areRight, bi_eq0, decide_true, decide_false, and_self, if_true, if_false, reduceCtorEq, not_true_eq_false, not_false_eq_true, mx_k0, mx_t0, fa_wide_le, Option.toList_some, Option.toList_none, List.nil_append, List.cons_append, true_and, and_true, eq_self, true_or, or_true, bi_01, mx_nl_i, mx_nl_r, mx_nl_n, mx_nl_f, mx_nl_d, lj0a, lj0b, lj1a, lj1b, lj2a, lj2b, lj3a, lj3b, lj4a, lj4b, lj5a, lj5b, lj6a, lj6b, lj7a, lj7b, lj8a, lj8b, lj9a, lj9b, lj10a, lj10b, lj11a, lj11b, lj12a, lj12b, lj13a, lj13b, lj14a, lj14b, lj15a, lj15b, lj16a, lj16b, lj17a, lj17b, lj18a, lj18b, lj19a, lj19b, ob_co (ph_o r), c_takesF r (show a' ≤ 50 by omega) (show ¬ (-1 : Int32) = 41 by decide), c_wrongF r (show a' ≤ 50 by omega), mo_gk (ph_o r), mo_gv (ph_o r), ph_9, x2, mo_pk9 (ph_o r), mo_pf9 (ph_o r), ph_w9]
                rfl
          · rw [if_neg p2] at hh
            by_cases p4 : 0 ≤ nmv lw (pek (TT_ A) N a)
            · rw [if_pos p4] at hh
              cases hh
              exact c_unit_n r po ha hn p1 p2 p4
            · rw [if_neg p4] at hh
              refine (c_unit_0 r po ha hn p1 p2 p4).trans ?_
              by_cases p5 : (dgl (TT_ A) N 4 a 0).1 = a
              · rw [if_pos p5] at hh ⊢
                cases hh
                rfl
              · rw [if_neg p5] at hh ⊢
                cases hh
                rfl
      · rw [if_neg k2] at hh
        obtain ⟨w, rfl⟩ : ∃ w', w = 6 + w' := ⟨w - 6, by omega⟩
        rw [if_neg (by omega)] at hD
        obtain ⟨D, rfl⟩ : ∃ D', D = D' + 2 := ⟨D - 2, by omega⟩
        by_cases p1 : lvl (pek (TT_ A) N a) = 6 + w - 6
        · rw [if_pos p1] at hh
          have p1' : lvl (pek (TT_ A) N a) = w := by omega
          have hlt : a < N := lvl_lt (T := TT_ A) (by omega)
          rw [go_ye r po (by omega) ha p1']
          rcases mtc_c hh with ⟨a1, c1, n1, e1, e2⟩ | ⟨a1, c1, n1, e1, e2⟩
          · rw [show 6 + w - 5 = w + 1 by omega] at e1
            have i1 := rd_in _ _ _ _ _ _ _ _ _ _ e1 (by omega) hlt
            rw [ih _ _ _ _ _ _ _ _ _ e1 (by omega) hlt (by omega) hop (D + 1) (.double 0) _ (by split <;> omega)]
            show CT X w _ (D + 2) none (PH h v c1 (nI a1) (-1) (nI op) (nI n1)) Q = _
            rw [ct_ok r (by omega) (by omega) p1']
            by_cases w8 : 6 + w = 8
            · rw [if_pos w8] at e2
              cases e2
              rw [if_pos (by omega)]
              rfl
            · rw [if_neg w8] at e2
              rw [if_neg (by omega)]
              exact ih _ _ _ _ _ _ _ _ _ e2 (by omega) i1.2.1 (by omega) hop (D + 2) _ Q (by rw [if_neg (by omega)]; omega)
          · rw [show 6 + w - 5 = w + 1 by omega] at e1
            have i1 := rd_in _ _ _ _ _ _ _ _ _ _ e1 (by omega) hlt
            rw [ih _ _ _ _ _ _ _ _ _ e1 (by omega) hlt (by omega) hop (D + 1) (.double 0) _ (by split <;> omega)]
            cases e2
            exact ct_no r (by omega) (by omega)
        · rw [if_neg p1] at hh
          cases hh
          exact go_no r po (by omega) ha (by omega)
end RK
