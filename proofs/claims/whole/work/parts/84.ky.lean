section KY
variable {X : MXX} {h : MXH} {lw : Bool} {N : Nat} {T : Nat → Int32} {rt : Int32}
set_option maxHeartbeats 4000000 in
theorem rd_cmp (tp : TPE h N T) : ∀ f,
    (∀ w op a c n b a' c' n', rd T N lw f w op a c n = some (b, a', c', n') → w ≤ 5 → a ≤ N → op ≤ 5 → ∀ z R, 4 ≤ z → z ≤ 4 + a → WF4 R z → RE X h lw N rt w op a n b a' c' n' z R) ∧
    (∀ lv op a c n b a' c' n', rd T N lw f (6 + lv) op a c n = some (b, a', c', n') → lv < 5 → a ≤ N → op ≤ 5 → ∀ z R x0 n0 i, 4 ≤ z → z ≤ 4 + a → WF4 R z → x0 < z → SEM c n0 n (VL R z x0) → (lv = 2 → i = 0) → i ≤ a → RL X h lw N rt lv op a n0 x0 i b a' c' n' z R) := by
  have hN := tp.2.1
  intro f
  induction f with
  | zero => exact ⟨(fun w op a c n b a' c' n' hh => by cases hh), (fun lv op a c n b a' c' n' hh => by cases hh)⟩
  | succ f ih =>
    obtain ⟨ih1, ih2⟩ := ih
    refine ⟨?_, ?_⟩
    · intro w op a c n b a' c' n' hh hw ha hop z R hz4 hza wf
      by_cases k1 : w < 5
      case neg =>
        have e5 : w = 5 := by omega
        subst e5
        exact rd_unit tp ih1 op a c n b a' c' n' hh ha hop z R hz4 hza wf
      unfold rd at hh
      rw [if_pos k1] at hh
      have hw5 : (nI w : Int32) < 5 := (nI_ltI (b := 5) (by omega) (by decide)).mpr k1
      have enter : ∀ (D : Nat) (Q : MXP) (b1 : Bool) (x1 a1 z1 : Nat) (R1 : R4), (∀ Q', ev_ X D 65 [.ref h.length, .int (nI (w + 1)), .int (nI op)] (QH h (wnm lw) N a z rt R) Q' = Q' (some (.int (ans b1 x1))) (QH h (wnm lw) N a1 z1 rt R1)) →
          ev_ X (D + 1) 65 [.ref h.length, .int (nI w), .int (nI op)] (QH h (wnm lw) N a z rt R) Q = ex_ X (D + 1) 65 38 [.ref h.length, .int (nI w), .int (nI op), .int (ans b1 x1), .int (jns w N), .int (nI 0), .double 0, .double 0] [] (QH h (wnm lw) N a1 z1 rt R1) Q := by
        intro D Q b1 x1 a1 z1 R1 hl
        rw [show (nI 0 : Int32) = 0 from rfl]
        by_cases w2 : w = 2
        · have w2' : (nI w : Int32) = 2 := by rw [w2]; rfl
          have w2f : (¬ (nI w : Int32) = 2) = False := by simp [w2']
          have jw : jns w N = 1 := by unfold jns; rw [if_pos w2]
          rw [i65_e]
          simp only [i65_0, i65_1, i65_2, i65_5, i65_6, i65_7, i65_10, i65_11, i65_12, i65_13, i65_14, i65_15, i65_16, i65_19, i65_20, i65_21, i65_22, i65_25, i65_26, i65_29, i65_30, i65_33, i65_35, i65_36, i65_40, i65_42, i65_45, i65_46, i65_49, i65_50, i65_53, i65_56, i65_57, i65_60, i65_61, i65_64, i65_66, i65_67, i65_68, i65_71, i65_72, i65_73, i65_76, i65_77, i65_78, i65_79, i65_80, i65_81, i65_84, i65_86, i65_88, i65_91, i65_92, i65_95, i65_96, i65_98, i65_99, i65_101, i65_104, i65_105, i65_108, i65_111, i65_112, hw5, if_true, nI_1, ob_co qh_o, hl, w2f, jw, if_false, Option.toList_some, Option.toList_none, List.nil_append, List.cons_append, true_and, and_true, eq_self, true_or, or_true, bi_01, mx_nl_i, mx_nl_r, mx_nl_n, mx_nl_f, mx_nl_d]
        · have w2' : ¬ (nI w : Int32) = 2 := fun e => w2 ((nI_eq (b := 2) (by omega) (by decide)).mp e)
          rw [i65_e]
          simp only [i65_0, i65_1, i65_2, i65_5, i65_6, i65_7, i65_10, i65_11, i65_12, i65_13, i65_14, i65_15, i65_16, i65_19, i65_20, i65_21, i65_22, i65_25, i65_26, i65_29, i65_30, i65_33, i65_35, i65_36, i65_40, i65_42, i65_45, i65_46, i65_49, i65_50, i65_53, i65_56, i65_57, i65_60, i65_61, i65_64, i65_66, i65_67, i65_68, i65_71, i65_72, i65_73, i65_76, i65_77, i65_78, i65_79, i65_80, i65_81, i65_84, i65_86, i65_88, i65_91, i65_92, i65_95, i65_96, i65_98, i65_99, i65_101, i65_104, i65_105, i65_108, i65_111, i65_112, hw5, if_true, nI_1, ob_co qh_o, hl, w2', w2, not_false_eq_true, if_false, tof_gk qh_o, tof_gv qh_o, tiv_1, jns, Option.toList_some, Option.toList_none, List.nil_append, List.cons_append, true_and, and_true, eq_self, true_or, or_true, bi_01, mx_nl_i, mx_nl_r, mx_nl_n, mx_nl_f, mx_nl_d]
      rcases mtc_c hh with ⟨a1, c1, n1, e1, e2⟩ | ⟨a1, c1, n1, e1, e2⟩
      · have i1 := rd_in _ _ _ _ _ _ _ _ _ _ e1 (by omega) ha
        obtain ⟨z1, R1, x1, x1e, x1b, x1w, x1s, x1l, _⟩ := ih1 (w + 1) op a c n true a1 c1 n1 e1 (by omega) ha hop z R hz4 hza wf
        obtain ⟨hx1, sm1⟩ := x1s rfl
        have z14 := x1e.1
        obtain ⟨z2, R2, x2, x2e, x2b, x2w, x2s, x2l⟩ := ih2 w op a1 c1 n1 b a' c' n' e2 k1 i1.2.1 hop z1 R1 x1 n 0 (by omega) (by omega) x1w hx1 sm1 (fun _ => rfl) (Nat.zero_le _)
        refine ⟨z2, R2, x2, x1e.tr x2e, by omega, x2w, x2s, fun D Q hD => ?_, fun e => by omega⟩
        obtain ⟨D, rfl⟩ : ∃ D', D = D' + 1 := ⟨D - 1, by omega⟩
        rw [enter D Q true x1 a1 z1 R1 (fun Q' => x1l D Q' (by omega))]
        show ex_ X (D + 1) 65 38 [.ref h.length, .int (nI w), .int (nI op), .int (nI x1), .int (jns w N), .int (nI 0), .double 0, .double 0] [] _ Q = _
        exact x2l (D + 1) Q _ _ hD
      · cases e2
        obtain ⟨z1, R1, x1, x1e, x1b, x1w, _, x1l, _⟩ := ih1 (w + 1) op a c n false a' c' n' e1 (by omega) ha hop z R hz4 hza wf
        refine ⟨z1, R1, x1, x1e, x1b, x1w, (fun e => by cases e), fun D Q hD => ?_, fun e => by omega⟩
        obtain ⟨D, rfl⟩ : ∃ D', D = D' + 1 := ⟨D - 1, by omega⟩
        rw [enter D Q false x1 a' z1 R1 (fun Q' => x1l D Q' (by omega))]
        exact k_exitF
    · intro lv op a c n b a' c' n' hh hlv ha hop z R x0 n0 i hz4 hza wf hx0 sm0 hi2 hia
      unfold rd at hh
      rw [if_neg (by omega), if_neg (by omega), show 6 + lv - 6 = lv by omega, show 6 + lv - 5 = lv + 1 by omega] at hh
      by_cases p1 : lvl (pek T N a) = lv
      case neg =>
        rw [if_neg p1] at hh
        cases hh
        exact ⟨z, R, x0, EXT.rf R z, by omega, wf, fun _ => ⟨hx0, sm0⟩, fun D Q w6 w7 hD => k_exit tp ha (by omega) (by omega) hlv p1⟩
      rw [if_pos p1] at hh
      have hlt : a < N := lvl_lt (T := T) (by omega)
      obtain ⟨l1, l2, l3, l4, l5⟩ := lvl_op (p := pek T N a) (by omega)
      have hj : ¬ jns lv N ≤ (nI i : Int32) := by
        unfold jns
        by_cases w2 : lv = 2
        · rw [if_pos w2, hi2 w2]; decide
        · rw [if_neg w2, nI_leI (by omega) (by omega)]; omega
      have step : ∀ (D : Nat) (Q : MXP) (w6 w7 : Value) (b1 : Bool) (y a1 z1 : Nat) (R1 : R4), (∀ Q', ev_ X D 65 [.ref h.length, .int (nI (lv + 1)), .int (nI op)] (QH h (wnm lw) N (a + 1) z rt R) Q' = Q' (some (.int (ans b1 y))) (QH h (wnm lw) N a1 z1 rt R1)) →
          ex_ X (D + 1) 65 38 [.ref h.length, .int (nI lv), .int (nI op), .int (nI x0), .int (jns lv N), .int (nI i), w6, w7] [] (QH h (wnm lw) N a z rt R) Q = ex_ X (D + 1) 65 86 [.ref h.length, .int (nI lv), .int (nI op), .int (nI x0), .int (jns lv N), .int (nI i), .int (pek T N a), .int (ans b1 y)] [] (QH h (wnm lw) N a1 z1 rt R1) Q := by
        intro D Q w6 w7 b1 y a1 z1 R1 hl
        rw [i65_38]
        simp only [i65_0, i65_1, i65_2, i65_5, i65_6, i65_7, i65_10, i65_11, i65_12, i65_13, i65_14, i65_15, i65_16, i65_19, i65_20, i65_21, i65_22, i65_25, i65_26, i65_29, i65_30, i65_33, i65_35, i65_36, i65_40, i65_42, i65_45, i65_46, i65_49, i65_50, i65_53, i65_56, i65_57, i65_60, i65_61, i65_64, i65_66, i65_67, i65_68, i65_71, i65_72, i65_73, i65_76, i65_77, i65_78, i65_79, i65_80, i65_81, i65_84, i65_88, i65_91, i65_92, i65_95, i65_96, i65_98, i65_99, i65_101, i65_104, i65_105, i65_108, i65_111, i65_112, hj, if_false, nI_pos (show x0 < 2 ^ 31 by omega), ob_co qh_o, k_peek tp ha, k_lvl, p1, not_true_eq_false, tof_gk qh_o, tof_gv qh_o, tiv_3, nI_1, tof_pk3 qh_o, tof_pf3 qh_o, qh_s3, hl, Option.toList_some, Option.toList_none, List.nil_append, List.cons_append, true_and, and_true, eq_self, true_or, or_true, bi_01, mx_nl_i, mx_nl_r, mx_nl_n, mx_nl_f, mx_nl_d]
      rcases mtc_c hh with ⟨a1, c1, n1, e1, e2⟩ | ⟨a1, c1, n1, e1, e2⟩
      · have i1 := rd_in _ _ _ _ _ _ _ _ _ _ e1 (by omega) hlt
        obtain ⟨z1, R1, y, x1e, x1b, x1w, x1s, x1l, _⟩ := ih1 (lv + 1) op (a + 1) c n true a1 c1 n1 e1 (by omega) hlt hop z R hz4 (by omega) wf
        obtain ⟨hy, sm1⟩ := x1s rfl
        have z14 := x1e.1
        have hz1 : z1 < 4 + N := by omega
        have hx1 : x0 < z1 := by omega
        have sA : SEM (upd c1 n1 (20000 + pek T N a)) n0 n (VL R1 z1 x0) := (sm0.cg (fun j h1 h2 => by rw [pk_un (by omega)]; exact i1.2.2.2.2 j h2)).ev (fun nm => (VL.ext (by omega) wf x1e hx0).symm)
        have sB : SEM (upd c1 n1 (20000 + pek T N a)) n n1 (VL R1 z1 y) := sm1.cg (fun j h1 h2 => pk_un (by omega))
        have sC : SEM (upd c1 n1 (20000 + pek T N a)) n0 (n1 + 1) (VL (ad4 R1 z1 (pek T N a) (nI x0) (nI y)) (z1 + 1) z1) := (sem_bin sA sB pk_us l3 l4 l5).ev (fun nm => by rw [ad4_vl (by omega) (by omega) x1w hx1 hy, l1])
        have wfC := ad4_wf (s := pek T N a) x1w l2 hx1 hy
        have add : ∀ (D : Nat) (Q : MXP), ex_ X (D + 1) 65 86 [.ref h.length, .int (nI lv), .int (nI op), .int (nI x0), .int (jns lv N), .int (nI i), .int (pek T N a), .int (nI y)] [] (QH h (wnm lw) N a1 z1 rt R1) Q = ex_ X (D + 1) 65 38 [.ref h.length, .int (nI lv), .int (nI op), .int (nI z1), .int (jns lv N), .int (nI (i + 1)), .int (pek T N a), .int (nI y)] [] (QH h (wnm lw) N a1 (z1 + 1) rt (ad4 R1 z1 (pek T N a) (nI x0) (nI y))) Q := by
          intro D Q
          simp only [i65_0, i65_1, i65_2, i65_5, i65_6, i65_7, i65_10, i65_11, i65_12, i65_13, i65_14, i65_15, i65_16, i65_19, i65_20, i65_21, i65_22, i65_25, i65_26, i65_29, i65_30, i65_33, i65_35, i65_36, i65_40, i65_42, i65_45, i65_46, i65_49, i65_50, i65_53, i65_56, i65_57, i65_60, i65_61, i65_64, i65_66, i65_67, i65_68, i65_71, i65_72, i65_73, i65_76, i65_77, i65_78, i65_79, i65_80, i65_81, i65_84, i65_86, i65_88, i65_91, i65_92, i65_95, i65_96, i65_98, i65_99, i65_101, i65_104, i65_105, i65_108, i65_111, i65_112, nI_pos' (show y < 2 ^ 31 by omega), if_true, ob_co qh_o, k_step hz1 hN, nI_1, Option.toList_some, Option.toList_none, List.nil_append, List.cons_append, true_and, and_true, eq_self, true_or, or_true, bi_01, mx_nl_i, mx_nl_r, mx_nl_n, mx_nl_f, mx_nl_d]
        by_cases w8 : lv = 2
        · rw [if_pos (by omega)] at e2
          cases e2
          refine ⟨z1 + 1, _, z1, x1e.tr ad4_ext, by omega, wfC, fun _ => ⟨by omega, sC⟩, fun D Q w6 w7 hD => ?_⟩
          obtain ⟨D, rfl⟩ : ∃ D', D = D' + 1 := ⟨D - 1, by omega⟩
          rw [step D Q w6 w7 true y a' z1 R1 (fun Q' => x1l D Q' (by omega))]
          show ex_ X (D + 1) 65 86 [.ref h.length, .int (nI lv), .int (nI op), .int (nI x0), .int (jns lv N), .int (nI i), .int (pek T N a), .int (nI y)] [] _ Q = _
          rw [add, i65_38]
          have hj2 : jns lv N ≤ nI (i + 1) := by
            unfold jns
            rw [if_pos w8, hi2 w8]; decide
          simp only [i65_0, i65_1, i65_2, i65_5, i65_6, i65_7, i65_10, i65_11, i65_12, i65_13, i65_14, i65_15, i65_16, i65_19, i65_20, i65_21, i65_22, i65_25, i65_26, i65_29, i65_30, i65_33, i65_35, i65_36, i65_40, i65_42, i65_45, i65_46, i65_49, i65_50, i65_53, i65_56, i65_57, i65_60, i65_61, i65_64, i65_66, i65_67, i65_68, i65_71, i65_72, i65_73, i65_76, i65_77, i65_78, i65_79, i65_80, i65_81, i65_84, i65_86, i65_88, i65_91, i65_92, i65_95, i65_96, i65_98, i65_99, i65_101, i65_104, i65_105, i65_108, i65_111, i65_112, hj2, if_true, ans, Option.toList_some, Option.toList_none, List.nil_append, List.cons_append, true_and, and_true, eq_self, true_or, or_true, bi_01, mx_nl_i, mx_nl_r, mx_nl_n, mx_nl_f, mx_nl_d]
        · rw [if_neg (by omega)] at e2
          obtain ⟨z2, R2, x2, x2e, x2b, x2w, x2s, x2l⟩ := ih2 lv op a1 _ (n1 + 1) b a' c' n' e2 hlv i1.2.1 hop (z1 + 1) _ z1 n0 (i + 1) (by omega) (by omega) wfC (by omega) sC (fun e => absurd e w8) (by omega)
          refine ⟨z2, R2, x2, x1e.tr (ad4_ext.tr x2e), by omega, x2w, x2s, fun D Q w6 w7 hD => ?_⟩
          obtain ⟨D, rfl⟩ : ∃ D', D = D' + 1 := ⟨D - 1, by omega⟩
          rw [step D Q w6 w7 true y a1 z1 R1 (fun Q' => x1l D Q' (by omega))]
          show ex_ X (D + 1) 65 86 [.ref h.length, .int (nI lv), .int (nI op), .int (nI x0), .int (jns lv N), .int (nI i), .int (pek T N a), .int (nI y)] [] _ Q = _
          rw [add]
          exact x2l (D + 1) Q _ _ hD
      · cases e2
        obtain ⟨z1, R1, y, x1e, x1b, x1w, _, x1l, _⟩ := ih1 (lv + 1) op (a + 1) c n false a' c' n' e1 (by omega) hlt hop z R hz4 (by omega) wf
        refine ⟨z1, R1, y, x1e, by omega, x1w, (fun e => by cases e), fun D Q w6 w7 hD => ?_⟩
        obtain ⟨D, rfl⟩ : ∃ D', D = D' + 1 := ⟨D - 1, by omega⟩
        rw [step D Q w6 w7 false y a' z1 R1 (fun Q' => x1l D Q' (by omega))]
        show ex_ X (D + 1) 65 86 [.ref h.length, .int (nI lv), .int (nI op), .int (nI x0), .int (jns lv N), .int (nI i), .int (pek T N a), .int (-1)] [] _ Q = _
        simp only [i65_0, i65_1, i65_2, i65_5, i65_6, i65_7, i65_10, i65_11, i65_12, i65_13, i65_14, i65_15, i65_16, i65_19, i65_20, i65_21, i65_22, i65_25, i65_26, i65_29, i65_30, i65_33, i65_35, i65_36, i65_40, i65_42, i65_45, i65_46, i65_49, i65_50, i65_53, i65_56, i65_57, i65_60, i65_61, i65_64, i65_66, i65_67, i65_68, i65_71, i65_72, i65_73, i65_76, i65_77, i65_78, i65_79, i65_80, i65_81, i65_84, i65_86, i65_88, i65_91, i65_92, i65_95, i65_96, i65_98, i65_99, i65_101, i65_104, i65_105, i65_108, i65_111, i65_112, show ¬ ((0 : Int32) ≤ -1) from by decide, if_false, nI_1, Option.toList_some, Option.toList_none, List.nil_append, List.cons_append, true_and, and_true, eq_self, true_or, or_true, bi_01, mx_nl_i, mx_nl_r, mx_nl_n, mx_nl_f, mx_nl_d]
        exact k_exitF
end KY
