section KX2
variable {X : MXX} {h : MXH} {lw : Bool} {N : Nat} {T : Nat → Int32} {rt : Int32}
theorem RE.of5 {op a n : Nat} {b : Bool} {a' : Nat} {c' : Nat → Int32} {n' z : Nat} {R : R4} {z' : Nat} {R' : R4} {x : Nat} (h1 : EXT R z R' z') (h2 : z' + a ≤ z + a') (h3 : WF4 R' z') (h4 : b = true → x < z' ∧ SEM c' n n' (VL R' z' x)) (h5 : ∀ D Q, 8 * (5 - op) + 6 ≤ D → ev_ X D 66 [.ref h.length, .int (nI op)] (QH h (wnm lw) N a z rt R) Q = Q (some (.int (ans b x))) (QH h (wnm lw) N a' z' rt R')) : RE X h lw N rt 5 op a n b a' c' n' z R := by
  refine ⟨z', R', x, h1, h2, h3, h4, fun D Q hD => ?_, fun _ => h5⟩
  obtain ⟨D, rfl⟩ : ∃ D', D = D' + 1 := ⟨D - 1, by omega⟩
  simp only [i65_0, i65_1, i65_2, i65_5, i65_6, i65_7, i65_10, i65_11, i65_12, i65_13, i65_14, i65_15, i65_16, i65_19, i65_20, i65_21, i65_22, i65_25, i65_26, i65_29, i65_30, i65_33, i65_35, i65_36, i65_40, i65_42, i65_45, i65_46, i65_49, i65_50, i65_53, i65_56, i65_57, i65_60, i65_61, i65_64, i65_66, i65_67, i65_68, i65_71, i65_72, i65_73, i65_76, i65_77, i65_78, i65_79, i65_80, i65_81, i65_84, i65_86, i65_88, i65_91, i65_92, i65_95, i65_96, i65_98, i65_99, i65_101, i65_104, i65_105, i65_108, i65_111, i65_112, i65_e, show ¬ ((nI 5 : Int32) < 5) from by decide, if_false, ob_co qh_o, h5 D _ (by omega), Option.toList_some, Option.toList_none, List.nil_append, List.cons_append, true_and, and_true, eq_self, true_or, or_true, bi_01, mx_nl_i, mx_nl_r, mx_nl_n, mx_nl_f, mx_nl_d]
theorem i2c_q {q : Nat} (hq : q < 256) : ((nI q : Int32).toUInt32 % 65536).toInt32 = nI q := by
  rw [pk_char, pk_tn (by omega), Nat.mod_eq_of_lt (by omega)]
set_option maxHeartbeats 4000000 in
/-- a unit -/
theorem rd_unit (tp : TPE h N T) {f : Nat} (ih1 : ∀ w op a c n b a' c' n', rd T N lw f w op a c n = some (b, a', c', n') → w ≤ 5 → a ≤ N → op ≤ 5 → ∀ z R, 4 ≤ z → z ≤ 4 + a → WF4 R z → RE X h lw N rt w op a n b a' c' n' z R) :
    ∀ op a c n b a' c' n', rd T N lw (f + 1) 5 op a c n = some (b, a', c', n') → a ≤ N → op ≤ 5 → ∀ z R, 4 ≤ z → z ≤ 4 + a → WF4 R z → RE X h lw N rt 5 op a n b a' c' n' z R := by
  intro op a c n b a' c' n' hh ha hop z R hz4 hza wf
  have hN := tp.2.1
  unfold rd at hh
  rw [if_neg (by decide), if_pos rfl] at hh
  by_cases p1 : pek T N a = 33
  · rw [if_pos p1] at hh
    have hlt : a < N := pek_lt (T := T) (by rw [p1]; decide)
    by_cases o5 : op = 5
    · rw [if_pos o5] at hh
      cases hh
      subst o5
      refine RE.of5 (x := 0) (EXT.rf R z) (by omega) wf (fun e => by cases e) (fun D Q hD => ?_)
      obtain ⟨D, rfl⟩ : ∃ D', D = D' + 1 := ⟨D - 1, by omega⟩
      simp only [i66_0, i66_0f0, i66_0f1, i66_0f2, i66_0f3, i66_1, i66_4, i66_5, i66_6, i66_8, i66_11, i66_12, i66_14, i66_17, i66_18, i66_19, i66_22, i66_23, i66_26, i66_26f0, i66_26f1, i66_26f2, i66_26f3, i66_27, i66_28, i66_29, i66_30, i66_31, i66_34, i66_35, i66_36, i66_39, i66_42, i66_42f0, i66_42f1, i66_42f2, i66_42f3, i66_43, i66_46, i66_47, i66_48, i66_51, i66_52, i66_55, i66_55f0, i66_55f1, i66_55f2, i66_55f3, i66_56, i66_59, i66_60, i66_61f0, i66_61f1, i66_64, i66_65, i66_66, i66_69, i66_69f0, i66_69f1, i66_69f2, i66_69f3, i66_70, i66_71, i66_74, i66_75, i66_76, i66_79, i66_80, i66_e, ob_co qh_o, k_peek tp ha, p1, show ¬ ((nI 5 : Int32) < 5) from by decide, if_true, if_false, ans, reduceCtorEq, Option.toList_some, Option.toList_none, List.nil_append, List.cons_append, true_and, and_true, eq_self, true_or, or_true, bi_01, mx_nl_i, mx_nl_r, mx_nl_n, mx_nl_f, mx_nl_d]
    · rw [if_neg o5] at hh
      have ho : (nI op : Int32) < 5 := (nI_ltI (b := 5) (by omega) (by decide)).mpr (by omega)
      rcases mtc_c hh with ⟨a1, c1, n1, e1, e2⟩ | ⟨a1, c1, n1, e1, e2⟩
      · cases e2
        have i1 := rd_in _ _ _ _ _ _ _ _ _ _ e1 (by omega) hlt
        obtain ⟨z1, R1, x1, x1e, x1b, x1w, x1s, _, x1c⟩ := ih1 5 (op + 1) (a + 1) c n true a' c1 n1 e1 (by omega) hlt (by omega) z R hz4 (by omega) wf
        obtain ⟨hx1, sm1⟩ := x1s rfl
        have hz1 : z1 < 4 + N := by omega
        have z14 := x1e.1
        refine RE.of5 (z' := z1 + 1) (R' := ad4 R1 z1 33 (nI x1) (nI x1)) (x := z1) (x1e.tr ad4_ext) (by omega) (ad4_wf x1w (Or.inr (Or.inl rfl)) hx1 hx1) (fun _ => ⟨by omega, ?_⟩) (fun D Q hD => ?_)
        · have s2 : SEM (upd c1 n1 20033) n n1 (VL R1 z1 x1) := sm1.cg (fun j h1 h2 => pk_un (by omega))
          refine (sem_not s2 pk_us).ev (fun nm => ?_)
          rw [ad4_vl (by omega) (by omega) x1w hx1 hx1, cop_33, ← bi_ite]
        · obtain ⟨D, rfl⟩ : ∃ D', D = D' + 3 := ⟨D - 3, by omega⟩
          simp only [i66_0, i66_0f0, i66_0f1, i66_0f2, i66_0f3, i66_1, i66_4, i66_5, i66_6, i66_8, i66_11, i66_12, i66_14, i66_17, i66_18, i66_19, i66_22, i66_23, i66_26, i66_26f0, i66_26f1, i66_26f2, i66_26f3, i66_27, i66_28, i66_29, i66_30, i66_31, i66_34, i66_35, i66_36, i66_39, i66_42, i66_42f0, i66_42f1, i66_42f2, i66_42f3, i66_43, i66_46, i66_47, i66_48, i66_51, i66_52, i66_55, i66_55f0, i66_55f1, i66_55f2, i66_55f3, i66_56, i66_59, i66_60, i66_61f0, i66_61f1, i66_64, i66_65, i66_66, i66_69, i66_69f0, i66_69f1, i66_69f2, i66_69f3, i66_70, i66_71, i66_74, i66_75, i66_76, i66_79, i66_80, i66_e, ob_co qh_o, k_peek tp ha, p1, ho, if_true, nI_1, Option.toList_some, Option.toList_none, List.nil_append, List.cons_append, true_and, and_true, eq_self, true_or, or_true, bi_01, mx_nl_i, mx_nl_r, mx_nl_n, mx_nl_f, mx_nl_d]
          simp only [i67_0, i67_1, i67_2, i67_5, i67_6, i67_7, i67_10, i67_11, i67_13, i67_16, i67_17, i67_18, i67_21, i67_22, i67_23, i67_26, i67_27, i67_30, i67_31, i67_33, i67_34, i67_35, i67_38, i67_39, i67_40, i67_41, i67_42, i67_45, i67_46, i67_47, i67_50, i67_51, i67_54, i67_56, i67_59, i67_60, i67_61, i67_62, i67_63, i67_66, i67_67, i67_68, i67_71, i67_72, i67_e, ob_co qh_o, tof_gk qh_o, tof_gv qh_o, tiv_3, nI_1, tof_pk3 qh_o, tof_pf3 qh_o, qh_s3, not_true_eq_false, if_false, Option.toList_some, Option.toList_none, List.nil_append, List.cons_append, true_and, and_true, eq_self, true_or, or_true, bi_01, mx_nl_i, mx_nl_r, mx_nl_n, mx_nl_f, mx_nl_d]
          rw [x1c rfl (D + 1) _ (by omega)]
          simp only [i67_0, i67_1, i67_2, i67_5, i67_6, i67_7, i67_10, i67_11, i67_13, i67_16, i67_17, i67_18, i67_21, i67_22, i67_23, i67_26, i67_27, i67_30, i67_31, i67_33, i67_34, i67_35, i67_38, i67_39, i67_40, i67_41, i67_42, i67_45, i67_46, i67_47, i67_50, i67_51, i67_54, i67_56, i67_59, i67_60, i67_61, i67_62, i67_63, i67_66, i67_67, i67_68, i67_71, i67_72, i67_e, ans, if_true, nI_pos' (show x1 < 2 ^ 31 by omega), ob_co qh_o, k_step hz1 hN, i66_0, i66_0f0, i66_0f1, i66_0f2, i66_0f3, i66_1, i66_4, i66_5, i66_6, i66_8, i66_11, i66_12, i66_14, i66_17, i66_18, i66_19, i66_22, i66_23, i66_26, i66_26f0, i66_26f1, i66_26f2, i66_26f3, i66_27, i66_28, i66_29, i66_30, i66_31, i66_34, i66_35, i66_36, i66_39, i66_42, i66_42f0, i66_42f1, i66_42f2, i66_42f3, i66_43, i66_46, i66_47, i66_48, i66_51, i66_52, i66_55, i66_55f0, i66_55f1, i66_55f2, i66_55f3, i66_56, i66_59, i66_60, i66_61f0, i66_61f1, i66_64, i66_65, i66_66, i66_69, i66_69f0, i66_69f1, i66_69f2, i66_69f3, i66_70, i66_71, i66_74, i66_75, i66_76, i66_79, i66_80, Option.toList_some, Option.toList_none, List.nil_append, List.cons_append, true_and, and_true, eq_self, true_or, or_true, bi_01, mx_nl_i, mx_nl_r, mx_nl_n, mx_nl_f, mx_nl_d]
      · cases e2
        have i1 := rd_in _ _ _ _ _ _ _ _ _ _ e1 (by omega) hlt
        obtain ⟨z1, R1, x1, x1e, x1b, x1w, _, _, x1c⟩ := ih1 5 (op + 1) (a + 1) c n false a' c' n' e1 (by omega) hlt (by omega) z R hz4 (by omega) wf
        refine RE.of5 (z' := z1) (R' := R1) (x := x1) x1e (by omega) x1w (fun e => by cases e) (fun D Q hD => ?_)
        obtain ⟨D, rfl⟩ : ∃ D', D = D' + 3 := ⟨D - 3, by omega⟩
        simp only [i66_0, i66_0f0, i66_0f1, i66_0f2, i66_0f3, i66_1, i66_4, i66_5, i66_6, i66_8, i66_11, i66_12, i66_14, i66_17, i66_18, i66_19, i66_22, i66_23, i66_26, i66_26f0, i66_26f1, i66_26f2, i66_26f3, i66_27, i66_28, i66_29, i66_30, i66_31, i66_34, i66_35, i66_36, i66_39, i66_42, i66_42f0, i66_42f1, i66_42f2, i66_42f3, i66_43, i66_46, i66_47, i66_48, i66_51, i66_52, i66_55, i66_55f0, i66_55f1, i66_55f2, i66_55f3, i66_56, i66_59, i66_60, i66_61f0, i66_61f1, i66_64, i66_65, i66_66, i66_69, i66_69f0, i66_69f1, i66_69f2, i66_69f3, i66_70, i66_71, i66_74, i66_75, i66_76, i66_79, i66_80, i66_e, ob_co qh_o, k_peek tp ha, p1, ho, if_true, nI_1, Option.toList_some, Option.toList_none, List.nil_append, List.cons_append, true_and, and_true, eq_self, true_or, or_true, bi_01, mx_nl_i, mx_nl_r, mx_nl_n, mx_nl_f, mx_nl_d]
        simp only [i67_0, i67_1, i67_2, i67_5, i67_6, i67_7, i67_10, i67_11, i67_13, i67_16, i67_17, i67_18, i67_21, i67_22, i67_23, i67_26, i67_27, i67_30, i67_31, i67_33, i67_34, i67_35, i67_38, i67_39, i67_40, i67_41, i67_42, i67_45, i67_46, i67_47, i67_50, i67_51, i67_54, i67_56, i67_59, i67_60, i67_61, i67_62, i67_63, i67_66, i67_67, i67_68, i67_71, i67_72, i67_e, ob_co qh_o, tof_gk qh_o, tof_gv qh_o, tiv_3, nI_1, tof_pk3 qh_o, tof_pf3 qh_o, qh_s3, not_true_eq_false, if_false, Option.toList_some, Option.toList_none, List.nil_append, List.cons_append, true_and, and_true, eq_self, true_or, or_true, bi_01, mx_nl_i, mx_nl_r, mx_nl_n, mx_nl_f, mx_nl_d]
        rw [x1c rfl (D + 1) _ (by omega)]
        simp only [i67_0, i67_1, i67_2, i67_5, i67_6, i67_7, i67_10, i67_11, i67_13, i67_16, i67_17, i67_18, i67_21, i67_22, i67_23, i67_26, i67_27, i67_30, i67_31, i67_33, i67_34, i67_35, i67_38, i67_39, i67_40, i67_41, i67_42, i67_45, i67_46, i67_47, i67_50, i67_51, i67_54, i67_56, i67_59, i67_60, i67_61, i67_62, i67_63, i67_66, i67_67, i67_68, i67_71, i67_72, i67_e, ans, reduceCtorEq, if_false, show ¬ ((0 : Int32) ≤ -1) from by decide, i66_0, i66_0f0, i66_0f1, i66_0f2, i66_0f3, i66_1, i66_4, i66_5, i66_6, i66_8, i66_11, i66_12, i66_14, i66_17, i66_18, i66_19, i66_22, i66_23, i66_26, i66_26f0, i66_26f1, i66_26f2, i66_26f3, i66_27, i66_28, i66_29, i66_30, i66_31, i66_34, i66_35, i66_36, i66_39, i66_42, i66_42f0, i66_42f1, i66_42f2, i66_42f3, i66_43, i66_46, i66_47, i66_48, i66_51, i66_52, i66_55, i66_55f0, i66_55f1, i66_55f2, i66_55f3, i66_56, i66_59, i66_60, i66_61f0, i66_61f1, i66_64, i66_65, i66_66, i66_69, i66_69f0, i66_69f1, i66_69f2, i66_69f3, i66_70, i66_71, i66_74, i66_75, i66_76, i66_79, i66_80, Option.toList_some, Option.toList_none, List.nil_append, List.cons_append, true_and, and_true, eq_self, true_or, or_true, bi_01, mx_nl_i, mx_nl_r, mx_nl_n, mx_nl_f, mx_nl_d]
  · rw [if_neg p1] at hh
    by_cases p2 : pek T N a = 40
    · rw [if_pos p2] at hh
      have hlt : a < N := pek_lt (T := T) (by rw [p2]; decide)
      have p33 : ¬ ((40 : Int32) = 33) := by decide
      by_cases o5 : op = 5
      · rw [if_pos o5] at hh
        cases hh
        subst o5
        refine RE.of5 (x := 0) (EXT.rf R z) (by omega) wf (fun e => by cases e) (fun D Q hD => ?_)
        obtain ⟨D, rfl⟩ : ∃ D', D = D' + 1 := ⟨D - 1, by omega⟩
        simp only [i66_0, i66_0f0, i66_0f1, i66_0f2, i66_0f3, i66_1, i66_4, i66_5, i66_6, i66_8, i66_11, i66_12, i66_14, i66_17, i66_18, i66_19, i66_22, i66_23, i66_26, i66_26f0, i66_26f1, i66_26f2, i66_26f3, i66_27, i66_28, i66_29, i66_30, i66_31, i66_34, i66_35, i66_36, i66_39, i66_42, i66_42f0, i66_42f1, i66_42f2, i66_42f3, i66_43, i66_46, i66_47, i66_48, i66_51, i66_52, i66_55, i66_55f0, i66_55f1, i66_55f2, i66_55f3, i66_56, i66_59, i66_60, i66_61f0, i66_61f1, i66_64, i66_65, i66_66, i66_69, i66_69f0, i66_69f1, i66_69f2, i66_69f3, i66_70, i66_71, i66_74, i66_75, i66_76, i66_79, i66_80, i66_e, ob_co qh_o, k_peek tp ha, p2, p33, not_true_eq_false, show ¬ ((nI 5 : Int32) < 5) from by decide, if_true, if_false, ans, reduceCtorEq, Option.toList_some, Option.toList_none, List.nil_append, List.cons_append, true_and, and_true, eq_self, true_or, or_true, bi_01, mx_nl_i, mx_nl_r, mx_nl_n, mx_nl_f, mx_nl_d]
      · rw [if_neg o5] at hh
        have ho : (nI op : Int32) < 5 := (nI_ltI (b := 5) (by omega) (by decide)).mpr (by omega)
        have n0 : (nI 0 : Int32) = 0 := rfl
        rcases mtc_c hh with ⟨a1, c1, n1, e1, e2⟩ | ⟨a1, c1, n1, e1, e2⟩
        · have i1 := rd_in _ _ _ _ _ _ _ _ _ _ e1 (by omega) hlt
          obtain ⟨z1, R1, x1, x1e, x1b, x1w, x1s, x1l, _⟩ := ih1 0 (op + 1) (a + 1) c n true a1 c1 n1 e1 (by omega) hlt (by omega) z R hz4 (by omega) wf
          obtain ⟨hx1, sm1⟩ := x1s rfl
          have z14 := x1e.1
          rw [n0] at x1l
          by_cases p3 : pek T N a1 = 41
          · rw [if_pos p3] at e2
            cases e2
            refine RE.of5 (z' := z1) (R' := R1) (x := x1) x1e (by omega) x1w (fun _ => ⟨hx1, sm1⟩) (fun D Q hD => ?_)
            obtain ⟨D, rfl⟩ : ∃ D', D = D' + 3 := ⟨D - 3, by omega⟩
            simp only [i66_0, i66_0f0, i66_0f1, i66_0f2, i66_0f3, i66_1, i66_4, i66_5, i66_6, i66_8, i66_11, i66_12, i66_14, i66_17, i66_18, i66_19, i66_22, i66_23, i66_26, i66_26f0, i66_26f1, i66_26f2, i66_26f3, i66_27, i66_28, i66_29, i66_30, i66_31, i66_34, i66_35, i66_36, i66_39, i66_42, i66_42f0, i66_42f1, i66_42f2, i66_42f3, i66_43, i66_46, i66_47, i66_48, i66_51, i66_52, i66_55, i66_55f0, i66_55f1, i66_55f2, i66_55f3, i66_56, i66_59, i66_60, i66_61f0, i66_61f1, i66_64, i66_65, i66_66, i66_69, i66_69f0, i66_69f1, i66_69f2, i66_69f3, i66_70, i66_71, i66_74, i66_75, i66_76, i66_79, i66_80, i66_e, ob_co qh_o, k_peek tp ha, p2, p33, not_true_eq_false, ho, if_true, if_false, nI_1, Option.toList_some, Option.toList_none, List.nil_append, List.cons_append, true_and, and_true, eq_self, true_or, or_true, bi_01, mx_nl_i, mx_nl_r, mx_nl_n, mx_nl_f, mx_nl_d]
            simp only [i67_0, i67_1, i67_2, i67_5, i67_6, i67_7, i67_10, i67_11, i67_13, i67_16, i67_17, i67_18, i67_21, i67_22, i67_23, i67_26, i67_27, i67_30, i67_31, i67_33, i67_34, i67_35, i67_38, i67_39, i67_40, i67_41, i67_42, i67_45, i67_46, i67_47, i67_50, i67_51, i67_54, i67_56, i67_59, i67_60, i67_61, i67_62, i67_63, i67_66, i67_67, i67_68, i67_71, i67_72, i67_e, ob_co qh_o, tof_gk qh_o, tof_gv qh_o, tiv_3, nI_1, tof_pk3 qh_o, tof_pf3 qh_o, qh_s3, p33, not_false_eq_true, if_true, Option.toList_some, Option.toList_none, List.nil_append, List.cons_append, true_and, and_true, eq_self, true_or, or_true, bi_01, mx_nl_i, mx_nl_r, mx_nl_n, mx_nl_f, mx_nl_d]
            rw [x1l (D + 1) _ (by omega)]
            simp only [i67_0, i67_1, i67_2, i67_5, i67_6, i67_7, i67_10, i67_11, i67_13, i67_16, i67_17, i67_18, i67_21, i67_22, i67_23, i67_26, i67_27, i67_30, i67_31, i67_33, i67_34, i67_35, i67_38, i67_39, i67_40, i67_41, i67_42, i67_45, i67_46, i67_47, i67_50, i67_51, i67_54, i67_56, i67_59, i67_60, i67_61, i67_62, i67_63, i67_66, i67_67, i67_68, i67_71, i67_72, i67_e, ans, if_true, if_false, nI_pos (show x1 < 2 ^ 31 by omega), ob_co qh_o, k_peek tp i1.2.1, p3, tof_gk qh_o, tof_gv qh_o, tiv_3, nI_1, tof_pk3 qh_o, tof_pf3 qh_o, qh_s3, i66_0, i66_0f0, i66_0f1, i66_0f2, i66_0f3, i66_1, i66_4, i66_5, i66_6, i66_8, i66_11, i66_12, i66_14, i66_17, i66_18, i66_19, i66_22, i66_23, i66_26, i66_26f0, i66_26f1, i66_26f2, i66_26f3, i66_27, i66_28, i66_29, i66_30, i66_31, i66_34, i66_35, i66_36, i66_39, i66_42, i66_42f0, i66_42f1, i66_42f2, i66_42f3, i66_43, i66_46, i66_47, i66_48, i66_51, i66_52, i66_55, i66_55f0, i66_55f1, i66_55f2, i66_55f3, i66_56, i66_59, i66_60, i66_61f0, i66_61f1, i66_64, i66_65, i66_66, i66_69, i66_69f0, i66_69f1, i66_69f2, i66_69f3, i66_70, i66_71, i66_74, i66_75, i66_76, i66_79, i66_80, Option.toList_some, Option.toList_none, List.nil_append, List.cons_append, true_and, and_true, eq_self, true_or, or_true, bi_01, mx_nl_i, mx_nl_r, mx_nl_n, mx_nl_f, mx_nl_d]
          · rw [if_neg p3] at e2
            cases e2
            refine RE.of5 (z' := z1) (R' := R1) (x := x1) x1e (by omega) x1w (fun e => by cases e) (fun D Q hD => ?_)
            obtain ⟨D, rfl⟩ : ∃ D', D = D' + 3 := ⟨D - 3, by omega⟩
            simp only [i66_0, i66_0f0, i66_0f1, i66_0f2, i66_0f3, i66_1, i66_4, i66_5, i66_6, i66_8, i66_11, i66_12, i66_14, i66_17, i66_18, i66_19, i66_22, i66_23, i66_26, i66_26f0, i66_26f1, i66_26f2, i66_26f3, i66_27, i66_28, i66_29, i66_30, i66_31, i66_34, i66_35, i66_36, i66_39, i66_42, i66_42f0, i66_42f1, i66_42f2, i66_42f3, i66_43, i66_46, i66_47, i66_48, i66_51, i66_52, i66_55, i66_55f0, i66_55f1, i66_55f2, i66_55f3, i66_56, i66_59, i66_60, i66_61f0, i66_61f1, i66_64, i66_65, i66_66, i66_69, i66_69f0, i66_69f1, i66_69f2, i66_69f3, i66_70, i66_71, i66_74, i66_75, i66_76, i66_79, i66_80, i66_e, ob_co qh_o, k_peek tp ha, p2, p33, not_true_eq_false, ho, if_true, if_false, nI_1, Option.toList_some, Option.toList_none, List.nil_append, List.cons_append, true_and, and_true, eq_self, true_or, or_true, bi_01, mx_nl_i, mx_nl_r, mx_nl_n, mx_nl_f, mx_nl_d]
            simp only [i67_0, i67_1, i67_2, i67_5, i67_6, i67_7, i67_10, i67_11, i67_13, i67_16, i67_17, i67_18, i67_21, i67_22, i67_23, i67_26, i67_27, i67_30, i67_31, i67_33, i67_34, i67_35, i67_38, i67_39, i67_40, i67_41, i67_42, i67_45, i67_46, i67_47, i67_50, i67_51, i67_54, i67_56, i67_59, i67_60, i67_61, i67_62, i67_63, i67_66, i67_67, i67_68, i67_71, i67_72, i67_e, ob_co qh_o, tof_gk qh_o, tof_gv qh_o, tiv_3, nI_1, tof_pk3 qh_o, tof_pf3 qh_o, qh_s3, p33, not_false_eq_true, if_true, Option.toList_some, Option.toList_none, List.nil_append, List.cons_append, true_and, and_true, eq_self, true_or, or_true, bi_01, mx_nl_i, mx_nl_r, mx_nl_n, mx_nl_f, mx_nl_d]
            rw [x1l (D + 1) _ (by omega)]
            simp only [i67_0, i67_1, i67_2, i67_5, i67_6, i67_7, i67_10, i67_11, i67_13, i67_16, i67_17, i67_18, i67_21, i67_22, i67_23, i67_26, i67_27, i67_30, i67_31, i67_33, i67_34, i67_35, i67_38, i67_39, i67_40, i67_41, i67_42, i67_45, i67_46, i67_47, i67_50, i67_51, i67_54, i67_56, i67_59, i67_60, i67_61, i67_62, i67_63, i67_66, i67_67, i67_68, i67_71, i67_72, i67_e, ans, if_true, if_false, reduceCtorEq, nI_pos (show x1 < 2 ^ 31 by omega), ob_co qh_o, k_peek tp i1.2.1, p3, i66_0, i66_0f0, i66_0f1, i66_0f2, i66_0f3, i66_1, i66_4, i66_5, i66_6, i66_8, i66_11, i66_12, i66_14, i66_17, i66_18, i66_19, i66_22, i66_23, i66_26, i66_26f0, i66_26f1, i66_26f2, i66_26f3, i66_27, i66_28, i66_29, i66_30, i66_31, i66_34, i66_35, i66_36, i66_39, i66_42, i66_42f0, i66_42f1, i66_42f2, i66_42f3, i66_43, i66_46, i66_47, i66_48, i66_51, i66_52, i66_55, i66_55f0, i66_55f1, i66_55f2, i66_55f3, i66_56, i66_59, i66_60, i66_61f0, i66_61f1, i66_64, i66_65, i66_66, i66_69, i66_69f0, i66_69f1, i66_69f2, i66_69f3, i66_70, i66_71, i66_74, i66_75, i66_76, i66_79, i66_80, Option.toList_some, Option.toList_none, List.nil_append, List.cons_append, true_and, and_true, eq_self, true_or, or_true, bi_01, mx_nl_i, mx_nl_r, mx_nl_n, mx_nl_f, mx_nl_d]
        · cases e2
          have i1 := rd_in _ _ _ _ _ _ _ _ _ _ e1 (by omega) hlt
          obtain ⟨z1, R1, x1, x1e, x1b, x1w, _, x1l, _⟩ := ih1 0 (op + 1) (a + 1) c n false a' c' n' e1 (by omega) hlt (by omega) z R hz4 (by omega) wf
          rw [n0] at x1l
          refine RE.of5 (z' := z1) (R' := R1) (x := x1) x1e (by omega) x1w (fun e => by cases e) (fun D Q hD => ?_)
          obtain ⟨D, rfl⟩ : ∃ D', D = D' + 3 := ⟨D - 3, by omega⟩
          simp only [i66_0, i66_0f0, i66_0f1, i66_0f2, i66_0f3, i66_1, i66_4, i66_5, i66_6, i66_8, i66_11, i66_12, i66_14, i66_17, i66_18, i66_19, i66_22, i66_23, i66_26, i66_26f0, i66_26f1, i66_26f2, i66_26f3, i66_27, i66_28, i66_29, i66_30, i66_31, i66_34, i66_35, i66_36, i66_39, i66_42, i66_42f0, i66_42f1, i66_42f2, i66_42f3, i66_43, i66_46, i66_47, i66_48, i66_51, i66_52, i66_55, i66_55f0, i66_55f1, i66_55f2, i66_55f3, i66_56, i66_59, i66_60, i66_61f0, i66_61f1, i66_64, i66_65, i66_66, i66_69, i66_69f0, i66_69f1, i66_69f2, i66_69f3, i66_70, i66_71, i66_74, i66_75, i66_76, i66_79, i66_80, i66_e, ob_co qh_o, k_peek tp ha, p2, p33, not_true_eq_false, ho, if_true, if_false, nI_1, Option.toList_some, Option.toList_none, List.nil_append, List.cons_append, true_and, and_true, eq_self, true_or, or_true, bi_01, mx_nl_i, mx_nl_r, mx_nl_n, mx_nl_f, mx_nl_d]
          simp only [i67_0, i67_1, i67_2, i67_5, i67_6, i67_7, i67_10, i67_11, i67_13, i67_16, i67_17, i67_18, i67_21, i67_22, i67_23, i67_26, i67_27, i67_30, i67_31, i67_33, i67_34, i67_35, i67_38, i67_39, i67_40, i67_41, i67_42, i67_45, i67_46, i67_47, i67_50, i67_51, i67_54, i67_56, i67_59, i67_60, i67_61, i67_62, i67_63, i67_66, i67_67, i67_68, i67_71, i67_72, i67_e, ob_co qh_o, tof_gk qh_o, tof_gv qh_o, tiv_3, nI_1, tof_pk3 qh_o, tof_pf3 qh_o, qh_s3, p33, not_false_eq_true, if_true, Option.toList_some, Option.toList_none, List.nil_append, List.cons_append, true_and, and_true, eq_self, true_or, or_true, bi_01, mx_nl_i, mx_nl_r, mx_nl_n, mx_nl_f, mx_nl_d]
          rw [x1l (D + 1) _ (by omega)]
          simp only [i67_0, i67_1, i67_2, i67_5, i67_6, i67_7, i67_10, i67_11, i67_13, i67_16, i67_17, i67_18, i67_21, i67_22, i67_23, i67_26, i67_27, i67_30, i67_31, i67_33, i67_34, i67_35, i67_38, i67_39, i67_40, i67_41, i67_42, i67_45, i67_46, i67_47, i67_50, i67_51, i67_54, i67_56, i67_59, i67_60, i67_61, i67_62, i67_63, i67_66, i67_67, i67_68, i67_71, i67_72, i67_e, ans, reduceCtorEq, if_true, if_false, show ((-1 : Int32) < 0) from by decide, i66_0, i66_0f0, i66_0f1, i66_0f2, i66_0f3, i66_1, i66_4, i66_5, i66_6, i66_8, i66_11, i66_12, i66_14, i66_17, i66_18, i66_19, i66_22, i66_23, i66_26, i66_26f0, i66_26f1, i66_26f2, i66_26f3, i66_27, i66_28, i66_29, i66_30, i66_31, i66_34, i66_35, i66_36, i66_39, i66_42, i66_42f0, i66_42f1, i66_42f2, i66_42f3, i66_43, i66_46, i66_47, i66_48, i66_51, i66_52, i66_55, i66_55f0, i66_55f1, i66_55f2, i66_55f3, i66_56, i66_59, i66_60, i66_61f0, i66_61f1, i66_64, i66_65, i66_66, i66_69, i66_69f0, i66_69f1, i66_69f2, i66_69f3, i66_70, i66_71, i66_74, i66_75, i66_76, i66_79, i66_80, Option.toList_some, Option.toList_none, List.nil_append, List.cons_append, true_and, and_true, eq_self, true_or, or_true, bi_01, mx_nl_i, mx_nl_r, mx_nl_n, mx_nl_f, mx_nl_d]
    · rw [if_neg p2] at hh
      by_cases p3 : 48 ≤ pek T N a ∧ pek T N a ≤ 57
      · have hlt : a < N := pek_lt (T := T) (fun e => by rw [e] at p3; exact absurd p3.1 (by decide))
        rw [if_neg (by rw [nmv_dig p3]; decide)] at hh
        have hd1 : a + 1 ≤ (dgl T N 4 a 0).1 ∧ (dgl T N 4 a 0).1 ≤ N := by
          have e : dgl T N 4 a 0 = dgl T N 3 (a + 1) (10 * 0 + pek T N a - 48) := by
            show (if 48 ≤ pek T N a ∧ pek T N a ≤ 57 then dgl T N 3 (a + 1) (10 * 0 + pek T N a - 48) else (a, 0)) = _
            rw [if_pos p3]
          rw [e]
          exact dgl_in 3 (a + 1) _ hlt
        rw [if_neg (by omega)] at hh
        cases hh
        obtain ⟨m', em, hm⟩ := dgl_v tp.2.2.2.2 4 a 0 0 rfl (by decide) (by decide)
        have hm4 : m' < 10000 := by
          have : (0 + 1) * 10 ^ 4 = 10000 := by decide
          omega
        have hz1 : z < 4 + N := by omega
        refine RE.of5 (z' := z + 1) (R' := ((ad4 R z 0 0 0).1, (ad4 R z 0 0 0).2.1, (ad4 R z 0 0 0).2.2.1, upd R.2.2.2 z (dgl T N 4 a 0).2)) (x := z) ⟨by omega, fun i hi => ⟨pk_un (by omega), pk_un (by omega), pk_un (by omega), pk_un (by omega)⟩⟩ (by omega) ?_ (fun _ => ⟨by omega, ?_⟩) (fun D Q hD => ?_)
        · intro i h4 hi
          have := ad4_wf (s := 0) (x := 0) (y := 0) wf (Or.inl rfl) (show 0 < z by omega) (show 0 < z by omega) i h4 hi
          exact this
        · have lt : upd c n (dgl T N 4 a 0).2 n < 20000 := by
            rw [pk_us, em]
            exact (nI_ltI (b := 20000) (by omega) (by decide)).mpr (by omega)
          refine (sem_push lt).ev (fun nm => ?_)
          rw [pk_us, em, if_pos (show (nI m' : Int32) < 10000 from (nI_ltI (b := 10000) (by omega) (by decide)).mpr hm4)]
          unfold VL
          rw [es_s, if_neg (by omega), pk_us]
          show _ = cop (upd R.1 z 0 z) _ _ (es_ _ nm z z)
          rw [pk_us, cop_0, es_at hz4 (Nat.le_refl z)]
          show _ = upd R.2.2.2 z _ z
          rw [pk_us]
        · obtain ⟨D, rfl⟩ : ∃ D', D = D' + 2 := ⟨D - 2, by omega⟩
          simp only [i66_0, i66_0f0, i66_0f1, i66_0f2, i66_0f3, i66_1, i66_4, i66_5, i66_6, i66_8, i66_11, i66_12, i66_14, i66_17, i66_18, i66_19, i66_22, i66_23, i66_26, i66_26f0, i66_26f1, i66_26f2, i66_26f3, i66_27, i66_28, i66_29, i66_30, i66_31, i66_34, i66_35, i66_36, i66_39, i66_42, i66_42f0, i66_42f1, i66_42f2, i66_42f3, i66_43, i66_46, i66_47, i66_48, i66_51, i66_52, i66_55, i66_55f0, i66_55f1, i66_55f2, i66_55f3, i66_56, i66_59, i66_60, i66_61f0, i66_61f1, i66_64, i66_65, i66_66, i66_69, i66_69f0, i66_69f1, i66_69f2, i66_69f3, i66_70, i66_71, i66_74, i66_75, i66_76, i66_79, i66_80, i66_e, ob_co qh_o, k_peek tp ha, p1, p2, not_false_eq_true, if_true, if_false, k_dig, p3, decide_true, show ¬ (bi_ true = 0) from by decide, k_num tp ha hz1, ans, Option.toList_some, Option.toList_none, List.nil_append, List.cons_append, true_and, and_true, eq_self, true_or, or_true, bi_01, mx_nl_i, mx_nl_r, mx_nl_n, mx_nl_f, mx_nl_d]
      · by_cases p4 : 0 ≤ nmv lw (pek T N a)
        · rw [if_pos p4] at hh
          cases hh
          have hlt : a < N := nmv_lt (T := T) p4
          obtain ⟨k, hk, ek⟩ := nmv_k p4
          obtain ⟨q, hq, eq⟩ := tp.2.2.2.2 a hlt
          have ep : pek T N a = nI q := by unfold pek; rw [if_pos hlt]; exact eq
          have hneg : ¬ (nI q : Int32) < 0 := nI_pos (by omega)
          have hpos : (0 : Int32) ≤ nI q := nI_pos' (by omega)
          refine RE.of5 (z' := z) (R' := R) (x := k) (EXT.rf R z) (by omega) wf (fun _ => ⟨by omega, ?_⟩) (fun D Q hD => ?_)
          · have e1 : (10000 + nI k : Int32) = nI (10000 + k) := nI_add 10000 k
            have lt : upd c n (10000 + nmv lw (pek T N a)) n < 20000 := by
              rw [pk_us, ek, e1]
              exact (nI_ltI (b := 20000) (by omega) (by decide)).mpr (by omega)
            refine (sem_push lt).ev (fun nm => ?_)
            rw [pk_us, ek, e1, if_neg (fun z => by have := (nI_ltI (b := 10000) (by omega) (by decide)).mp z; omega)]
            have e2 : (nI (10000 + k) - 10000 : Int32) = nI k := by
              show nI (10000 + k) - nI 10000 = _
              rw [pk_sub (by omega), Nat.add_sub_cancel_left]
            rw [e2, nI_clamp (by omega)]
            unfold VL
            rw [es_nm hk]
          · obtain ⟨D, rfl⟩ : ∃ D', D = D' + 5 := ⟨D - 5, by omega⟩
            rw [ep] at p1 p2 p3 p4 ek
            simp only [i66_0, i66_0f0, i66_0f1, i66_0f2, i66_0f3, i66_1, i66_4, i66_5, i66_6, i66_8, i66_11, i66_12, i66_14, i66_17, i66_18, i66_19, i66_22, i66_23, i66_26, i66_26f0, i66_26f1, i66_26f2, i66_26f3, i66_27, i66_28, i66_29, i66_30, i66_31, i66_34, i66_35, i66_36, i66_39, i66_42, i66_42f0, i66_42f1, i66_42f2, i66_42f3, i66_43, i66_46, i66_47, i66_48, i66_51, i66_52, i66_55, i66_55f0, i66_55f1, i66_55f2, i66_55f3, i66_56, i66_59, i66_60, i66_61f0, i66_61f1, i66_64, i66_65, i66_66, i66_69, i66_69f0, i66_69f1, i66_69f2, i66_69f3, i66_70, i66_71, i66_74, i66_75, i66_76, i66_79, i66_80, i66_e, ob_co qh_o, k_peek tp ha, ep, p1, p2, not_false_eq_true, if_true, if_false, k_dig, p3, decide_false, show (bi_ false = 0) from rfl, hpos, tof_gk qh_o, tof_gv qh_o, i2c_q hq, ans, Option.toList_some, Option.toList_none, List.nil_append, List.cons_append, true_and, and_true, eq_self, true_or, or_true, bi_01, mx_nl_i, mx_nl_r, mx_nl_n, mx_nl_f, mx_nl_d]
            cases lw with
            | true =>
              have key := fun Q' => k_idx (X := X) (d := D) (h := QH h (wnm true) N a z rt R) (Q := Q') (lw := true) hq
              simp only [show wnm true = 2 from rfl] at key ⊢
              simp only [i66_0, i66_0f0, i66_0f1, i66_0f2, i66_0f3, i66_1, i66_4, i66_5, i66_6, i66_8, i66_11, i66_12, i66_14, i66_17, i66_18, i66_19, i66_22, i66_23, i66_26, i66_26f0, i66_26f1, i66_26f2, i66_26f3, i66_27, i66_28, i66_29, i66_30, i66_31, i66_34, i66_35, i66_36, i66_39, i66_42, i66_42f0, i66_42f1, i66_42f2, i66_42f3, i66_43, i66_46, i66_47, i66_48, i66_51, i66_52, i66_55, i66_55f0, i66_55f1, i66_55f2, i66_55f3, i66_56, i66_59, i66_60, i66_61f0, i66_61f1, i66_64, i66_65, i66_66, i66_69, i66_69f0, i66_69f1, i66_69f2, i66_69f3, i66_70, i66_71, i66_74, i66_75, i66_76, i66_79, i66_80, i66_e, key, ek, nI_pos (show k < 2 ^ 31 by omega), if_false, tof_gk qh_o, tof_gv qh_o, tiv_3, nI_1, tof_pk3 qh_o, tof_pf3 qh_o, qh_s3, Option.toList_some, Option.toList_none, List.nil_append, List.cons_append, true_and, and_true, eq_self, true_or, or_true, bi_01, mx_nl_i, mx_nl_r, mx_nl_n, mx_nl_f, mx_nl_d]
            | false =>
              have key := fun Q' => k_idx (X := X) (d := D) (h := QH h (wnm false) N a z rt R) (Q := Q') (lw := false) hq
              simp only [show wnm false = 3 from rfl] at key ⊢
              simp only [i66_0, i66_0f0, i66_0f1, i66_0f2, i66_0f3, i66_1, i66_4, i66_5, i66_6, i66_8, i66_11, i66_12, i66_14, i66_17, i66_18, i66_19, i66_22, i66_23, i66_26, i66_26f0, i66_26f1, i66_26f2, i66_26f3, i66_27, i66_28, i66_29, i66_30, i66_31, i66_34, i66_35, i66_36, i66_39, i66_42, i66_42f0, i66_42f1, i66_42f2, i66_42f3, i66_43, i66_46, i66_47, i66_48, i66_51, i66_52, i66_55, i66_55f0, i66_55f1, i66_55f2, i66_55f3, i66_56, i66_59, i66_60, i66_61f0, i66_61f1, i66_64, i66_65, i66_66, i66_69, i66_69f0, i66_69f1, i66_69f2, i66_69f3, i66_70, i66_71, i66_74, i66_75, i66_76, i66_79, i66_80, i66_e, key, ek, nI_pos (show k < 2 ^ 31 by omega), if_false, tof_gk qh_o, tof_gv qh_o, tiv_3, nI_1, tof_pk3 qh_o, tof_pf3 qh_o, qh_s3, Option.toList_some, Option.toList_none, List.nil_append, List.cons_append, true_and, and_true, eq_self, true_or, or_true, bi_01, mx_nl_i, mx_nl_r, mx_nl_n, mx_nl_f, mx_nl_d]
        · rw [if_neg p4] at hh
          have ed : (dgl T N 4 a 0).1 = a := by
            show (if 48 ≤ pek T N a ∧ pek T N a ≤ 57 then dgl T N 3 (a + 1) (10 * 0 + pek T N a - 48) else (a, 0)).1 = _
            rw [if_neg p3]
          rw [if_pos ed] at hh
          cases hh
          refine RE.of5 (z' := z) (R' := R) (x := 0) (EXT.rf R z) (by omega) wf (fun e => by cases e) (fun D Q hD => ?_)
          obtain ⟨D, rfl⟩ : ∃ D', D = D' + 5 := ⟨D - 5, by omega⟩
          by_cases hlt : a < N
          · obtain ⟨q, hq, eq⟩ := tp.2.2.2.2 a hlt
            have ep : pek T N a = nI q := by unfold pek; rw [if_pos hlt]; exact eq
            have hpos : (0 : Int32) ≤ nI q := nI_pos' (by omega)
            rw [ep] at p1 p2 p3 p4
            have p4' : nmv lw (nI q) < 0 := Int32.not_le.mp p4
            have p5 : nmv lw (nI q) = -1 := by
              by_cases z0 : nmv lw (nI q) = -1
              · exact z0
              · exfalso
                revert p4' z0
                unfold nmv
                cases lw
                · rw [if_neg (by decide)]
                  split
                  · decide
                  · split
                    · decide
                    · split
                      · decide
                      · split <;> decide
                · rw [if_pos rfl]
                  split
                  · decide
                  · split
                    · decide
                    · split
                      · decide
                      · split <;> decide
            simp only [i66_0, i66_0f0, i66_0f1, i66_0f2, i66_0f3, i66_1, i66_4, i66_5, i66_6, i66_8, i66_11, i66_12, i66_14, i66_17, i66_18, i66_19, i66_22, i66_23, i66_26, i66_26f0, i66_26f1, i66_26f2, i66_26f3, i66_27, i66_28, i66_29, i66_30, i66_31, i66_34, i66_35, i66_36, i66_39, i66_42, i66_42f0, i66_42f1, i66_42f2, i66_42f3, i66_43, i66_46, i66_47, i66_48, i66_51, i66_52, i66_55, i66_55f0, i66_55f1, i66_55f2, i66_55f3, i66_56, i66_59, i66_60, i66_61f0, i66_61f1, i66_64, i66_65, i66_66, i66_69, i66_69f0, i66_69f1, i66_69f2, i66_69f3, i66_70, i66_71, i66_74, i66_75, i66_76, i66_79, i66_80, i66_e, ob_co qh_o, k_peek tp ha, ep, p1, p2, not_false_eq_true, if_true, if_false, k_dig, p3, decide_false, show (bi_ false = 0) from rfl, hpos, tof_gk qh_o, tof_gv qh_o, i2c_q hq, ans, reduceCtorEq, Option.toList_some, Option.toList_none, List.nil_append, List.cons_append, true_and, and_true, eq_self, true_or, or_true, bi_01, mx_nl_i, mx_nl_r, mx_nl_n, mx_nl_f, mx_nl_d]
            cases lw with
            | true =>
              have key := fun Q' => k_idx (X := X) (d := D) (h := QH h (wnm true) N a z rt R) (Q := Q') (lw := true) hq
              simp only [show wnm true = 2 from rfl] at key ⊢
              simp only [i66_0, i66_0f0, i66_0f1, i66_0f2, i66_0f3, i66_1, i66_4, i66_5, i66_6, i66_8, i66_11, i66_12, i66_14, i66_17, i66_18, i66_19, i66_22, i66_23, i66_26, i66_26f0, i66_26f1, i66_26f2, i66_26f3, i66_27, i66_28, i66_29, i66_30, i66_31, i66_34, i66_35, i66_36, i66_39, i66_42, i66_42f0, i66_42f1, i66_42f2, i66_42f3, i66_43, i66_46, i66_47, i66_48, i66_51, i66_52, i66_55, i66_55f0, i66_55f1, i66_55f2, i66_55f3, i66_56, i66_59, i66_60, i66_61f0, i66_61f1, i66_64, i66_65, i66_66, i66_69, i66_69f0, i66_69f1, i66_69f2, i66_69f3, i66_70, i66_71, i66_74, i66_75, i66_76, i66_79, i66_80, i66_e, key, p5, show ((-1 : Int32) < 0) from by decide, if_true, Option.toList_some, Option.toList_none, List.nil_append, List.cons_append, true_and, and_true, eq_self, true_or, or_true, bi_01, mx_nl_i, mx_nl_r, mx_nl_n, mx_nl_f, mx_nl_d]
            | false =>
              have key := fun Q' => k_idx (X := X) (d := D) (h := QH h (wnm false) N a z rt R) (Q := Q') (lw := false) hq
              simp only [show wnm false = 3 from rfl] at key ⊢
              simp only [i66_0, i66_0f0, i66_0f1, i66_0f2, i66_0f3, i66_1, i66_4, i66_5, i66_6, i66_8, i66_11, i66_12, i66_14, i66_17, i66_18, i66_19, i66_22, i66_23, i66_26, i66_26f0, i66_26f1, i66_26f2, i66_26f3, i66_27, i66_28, i66_29, i66_30, i66_31, i66_34, i66_35, i66_36, i66_39, i66_42, i66_42f0, i66_42f1, i66_42f2, i66_42f3, i66_43, i66_46, i66_47, i66_48, i66_51, i66_52, i66_55, i66_55f0, i66_55f1, i66_55f2, i66_55f3, i66_56, i66_59, i66_60, i66_61f0, i66_61f1, i66_64, i66_65, i66_66, i66_69, i66_69f0, i66_69f1, i66_69f2, i66_69f3, i66_70, i66_71, i66_74, i66_75, i66_76, i66_79, i66_80, i66_e, key, p5, show ((-1 : Int32) < 0) from by decide, if_true, Option.toList_some, Option.toList_none, List.nil_append, List.cons_append, true_and, and_true, eq_self, true_or, or_true, bi_01, mx_nl_i, mx_nl_r, mx_nl_n, mx_nl_f, mx_nl_d]
          · have ep : pek T N a = -1 := by unfold pek; rw [if_neg hlt]
            simp only [i66_0, i66_0f0, i66_0f1, i66_0f2, i66_0f3, i66_1, i66_4, i66_5, i66_6, i66_8, i66_11, i66_12, i66_14, i66_17, i66_18, i66_19, i66_22, i66_23, i66_26, i66_26f0, i66_26f1, i66_26f2, i66_26f3, i66_27, i66_28, i66_29, i66_30, i66_31, i66_34, i66_35, i66_36, i66_39, i66_42, i66_42f0, i66_42f1, i66_42f2, i66_42f3, i66_43, i66_46, i66_47, i66_48, i66_51, i66_52, i66_55, i66_55f0, i66_55f1, i66_55f2, i66_55f3, i66_56, i66_59, i66_60, i66_61f0, i66_61f1, i66_64, i66_65, i66_66, i66_69, i66_69f0, i66_69f1, i66_69f2, i66_69f3, i66_70, i66_71, i66_74, i66_75, i66_76, i66_79, i66_80, i66_e, ob_co qh_o, k_peek tp ha, ep, show ¬ ((-1 : Int32) = 33) from by decide, show ¬ ((-1 : Int32) = 40) from by decide, not_false_eq_true, if_true, if_false, k_dig, show ¬ ((48 : Int32) ≤ -1 ∧ (-1 : Int32) ≤ 57) from by decide, decide_false, show (bi_ false = 0) from rfl, show ¬ ((0 : Int32) ≤ -1) from by decide, show ((-1 : Int32) < 0) from by decide, ans, reduceCtorEq, Option.toList_some, Option.toList_none, List.nil_append, List.cons_append, true_and, and_true, eq_self, true_or, or_true, bi_01, mx_nl_i, mx_nl_r, mx_nl_n, mx_nl_f, mx_nl_d]
end KX2
