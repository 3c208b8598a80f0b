/-! the reference's calls: sheets, the tape -/
section RB
variable {X : MXX} {d : Nat} {h : MXH} {Q : MXP} {v : Nat → Int32} {A : Nat → Nat → Int32}
/-- sheet -/
def zs_ (f : Nat → Int32) (s : Nat) (n : Nat) : Nat → Int32 := fun j => if 40 * s ≤ j ∧ j < 40 * s + n then 0 else f j
theorem zs_s (f : Nat → Int32) (s n : Nat) : upd (zs_ f s n) (40 * s + n) 0 = zs_ f s (n + 1) := by
  funext j
  unfold upd zs_
  by_cases e : j = 40 * s + n
  · rw [if_pos e, if_pos (by omega)]
  · rw [if_neg e]
    by_cases e2 : 40 * s ≤ j ∧ j < 40 * s + n
    · rw [if_pos e2, if_pos (by omega)]
    · rw [if_neg e2, if_neg (by omega)]
def sp_sheet (v : Nat → Int32) (A : Nat → Nat → Int32) (a b c : Int32) : PR := if (0 ≤ a ∧ a ≤ 3) ∧ (b = 0 ∨ b = 8 ∨ b = 16 ∨ b = 32) then (if ¬ b = 0 ∧ c < 0 then er_ v A 3 else if ¬ b = 0 ∧ 40 < c then er_ v A 1 else (1, v, up2 (up2 (up2 A 10 (upd (A 10) a.toNatClampNeg b)) 11 (upd (A 11) a.toNatClampNeg (if b = 0 then 0 else c))) 12 (zs_ (A 12) a.toNatClampNeg 40))) else er_ v A 1
theorem c_sheet_l {s : Nat} (hs : s < 4) (r : RW h v A) {w2 w3 : Value} (hw : mx_nl w3 = true) : ∀ n k, k + n = 40 → ex_ X (d + 9) 199 90 [.ref 96, .int (nI s), w2, w3, .int (nI k)] [] (h.set 109 (.inl (0, 160, .inl (zs_ (A 12) s k)))) Q = Q (some (.int 1)) (h.set 109 (.inl (0, 160, .inl (zs_ (A 12) s 40)))) := by
  intro n
  induction n with
  | zero =>
    intro k hk
    have e : k = 40 := by omega
    subst e
    rw [i199_90]
    simp only [i199_0, i199_1, i199_4, i199_7, i199_8, i199_11, i199_12, i199_14, i199_17, i199_18, i199_20, i199_23, i199_24, i199_26, i199_29, i199_30, i199_31, i199_34, i199_35, i199_36, i199_39, i199_40, i199_43, i199_44, i199_45, i199_48, i199_49, i199_50, i199_53, i199_54, i199_56, i199_59, i199_60, i199_61, i199_64, i199_65, i199_66, i199_69, i199_70, i199_71, i199_72, i199_73, i199_76, i199_77, i199_78, i199_81, i199_82, i199_85, i199_86, i199_87, i199_88, i199_92, i199_94, i199_97, i199_98, i199_101, i199_103, i199_104, i199_105, i199_107, i199_108, i199_109, i199_110, i199_113, i199_116, i199_117, i199_e, show ((40 : Int32) ≤ nI 40) from by decide, c_in, c_isAhead, c_isSheet, c_areRight, bi_eq0, decide_true, decide_false, and_self, if_true, if_false, reduceCtorEq, not_true_eq_false, not_false_eq_true, mx_k0, mx_t0, fa_wide_le, Option.toList_some, Option.toList_none, List.nil_append, List.cons_append, true_and, and_true, eq_self, true_or, or_true, bi_01, mx_nl_i, mx_nl_r, mx_nl_n, mx_nl_f, mx_nl_d, lj0a, lj0b, lj1a, lj1b, lj2a, lj2b, lj3a, lj3b, lj4a, lj4b, lj5a, lj5b, lj6a, lj6b, lj7a, lj7b, lj8a, lj8b, lj9a, lj9b, lj10a, lj10b, lj11a, lj11b, lj12a, lj12b, lj13a, lj13b, lj14a, lj14b, lj15a, lj15b, lj16a, lj16b, lj17a, lj17b, lj18a, lj18b, lj19a, lj19b]
  | succ n ih =>
    intro k hk
    have hc : ¬ ((40 : Int32) ≤ nI k) := by
      show ¬ (nI 40 ≤ nI k)
      rw [nI_leI (by decide) (by omega)]; omega
    have r1 := r.s12 (f := zs_ (A 12) s k)
    have g1 := r1.g12
    rw [up2_s] at g1
    have x0 : (40 * nI s + nI k : Int32) = nI (40 * s + k) := by
      show nI 40 * nI s + nI k = _
      rw [pk_mul, nI_add]
    rw [i199_90]
    simp only [i199_0, i199_1, i199_4, i199_7, i199_8, i199_11, i199_12, i199_14, i199_17, i199_18, i199_20, i199_23, i199_24, i199_26, i199_29, i199_30, i199_31, i199_34, i199_35, i199_36, i199_39, i199_40, i199_43, i199_44, i199_45, i199_48, i199_49, i199_50, i199_53, i199_54, i199_56, i199_59, i199_60, i199_61, i199_64, i199_65, i199_66, i199_69, i199_70, i199_71, i199_72, i199_73, i199_76, i199_77, i199_78, i199_81, i199_82, i199_85, i199_86, i199_87, i199_88, i199_92, i199_94, i199_97, i199_98, i199_101, i199_103, i199_104, i199_105, i199_107, i199_108, i199_109, i199_110, i199_113, i199_116, i199_117, i199_e, c_in, c_isAhead, c_isSheet, c_areRight, bi_eq0, decide_true, decide_false, and_self, if_true, if_false, reduceCtorEq, not_true_eq_false, not_false_eq_true, mx_k0, mx_t0, fa_wide_le, Option.toList_some, Option.toList_none, List.nil_append, List.cons_append, true_and, and_true, eq_self, true_or, or_true, bi_01, mx_nl_i, mx_nl_r, mx_nl_n, mx_nl_f, mx_nl_d, lj0a, lj0b, lj1a, lj1b, lj2a, lj2b, lj3a, lj3b, lj4a, lj4b, lj5a, lj5b, lj6a, lj6b, lj7a, lj7b, lj8a, lj8b, lj9a, lj9b, lj10a, lj10b, lj11a, lj11b, lj12a, lj12b, lj13a, lj13b, lj14a, lj14b, lj15a, lj15b, lj16a, lj16b, lj17a, lj17b, lj18a, lj18b, lj19a, lj19b, hc, hw, mo_gk r1.o, mo_gv r1.o, ar_ik g1, ar_is g1, x0, mx_inN (show 40 * s + k < 160 by omega) (by decide), nI_clamp (show 40 * s + k < 2 ^ 31 by omega), List.set_set, zs_s, nI_1]
    exact ih (k + 1) (by omega)
theorem r_sheet (r : RW h v A) (ok : OK v A) {a b c : Int32} (k : KR h (sp_sheet v A a b c) Q) : ev_ X (d + 9) 199 [.ref 96, .int a, .int b, .int c] h Q := by
  unfold sp_sheet at k
  by_cases c1 : 0 ≤ a ∧ a ≤ 3
  case neg =>
    rw [if_neg (fun q => c1 q.1)] at k
    simp only [i199_0, i199_1, i199_4, i199_7, i199_8, i199_11, i199_12, i199_14, i199_17, i199_18, i199_20, i199_23, i199_24, i199_26, i199_29, i199_30, i199_31, i199_34, i199_35, i199_36, i199_39, i199_40, i199_43, i199_44, i199_45, i199_48, i199_49, i199_50, i199_53, i199_54, i199_56, i199_59, i199_60, i199_61, i199_64, i199_65, i199_66, i199_69, i199_70, i199_71, i199_72, i199_73, i199_76, i199_77, i199_78, i199_81, i199_82, i199_85, i199_86, i199_87, i199_88, i199_90, i199_92, i199_94, i199_97, i199_98, i199_101, i199_103, i199_104, i199_105, i199_107, i199_108, i199_109, i199_110, i199_113, i199_116, i199_117, i199_e, c_in, c_isAhead, c_isSheet, c_areRight, bi_eq0, decide_true, decide_false, and_self, if_true, if_false, reduceCtorEq, not_true_eq_false, not_false_eq_true, mx_k0, mx_t0, fa_wide_le, Option.toList_some, Option.toList_none, List.nil_append, List.cons_append, true_and, and_true, eq_self, true_or, or_true, bi_01, mx_nl_i, mx_nl_r, mx_nl_n, mx_nl_f, mx_nl_d, lj0a, lj0b, lj1a, lj1b, lj2a, lj2b, lj3a, lj3b, lj4a, lj4b, lj5a, lj5b, lj6a, lj6b, lj7a, lj7b, lj8a, lj8b, lj9a, lj9b, lj10a, lj10b, lj11a, lj11b, lj12a, lj12b, lj13a, lj13b, lj14a, lj14b, lj15a, lj15b, lj16a, lj16b, lj17a, lj17b, lj18a, lj18b, lj19a, lj19b, ob_co r.o, c_f1 r, c_f2 r, c_f3 r, c_f4 r, c_f5 r, mo_gk r.o, mo_gv r.o, c_isSeller r.o r.g0, c_isSort r.o r.g0, ar_ik r.g0, ar_ia r.g0, ar_is r.g0, c1]
    exact k.er r ok
  by_cases c2 : b = 0 ∨ b = 8 ∨ b = 16 ∨ b = 32
  case neg =>
    rw [if_neg (fun q => c2 q.2)] at k
    simp only [not_or] at c2
    simp only [i199_0, i199_1, i199_4, i199_7, i199_8, i199_11, i199_12, i199_14, i199_17, i199_18, i199_20, i199_23, i199_24, i199_26, i199_29, i199_30, i199_31, i199_34, i199_35, i199_36, i199_39, i199_40, i199_43, i199_44, i199_45, i199_48, i199_49, i199_50, i199_53, i199_54, i199_56, i199_59, i199_60, i199_61, i199_64, i199_65, i199_66, i199_69, i199_70, i199_71, i199_72, i199_73, i199_76, i199_77, i199_78, i199_81, i199_82, i199_85, i199_86, i199_87, i199_88, i199_90, i199_92, i199_94, i199_97, i199_98, i199_101, i199_103, i199_104, i199_105, i199_107, i199_108, i199_109, i199_110, i199_113, i199_116, i199_117, i199_e, c_in, c_isAhead, c_isSheet, c_areRight, bi_eq0, decide_true, decide_false, and_self, if_true, if_false, reduceCtorEq, not_true_eq_false, not_false_eq_true, mx_k0, mx_t0, fa_wide_le, Option.toList_some, Option.toList_none, List.nil_append, List.cons_append, true_and, and_true, eq_self, true_or, or_true, bi_01, mx_nl_i, mx_nl_r, mx_nl_n, mx_nl_f, mx_nl_d, lj0a, lj0b, lj1a, lj1b, lj2a, lj2b, lj3a, lj3b, lj4a, lj4b, lj5a, lj5b, lj6a, lj6b, lj7a, lj7b, lj8a, lj8b, lj9a, lj9b, lj10a, lj10b, lj11a, lj11b, lj12a, lj12b, lj13a, lj13b, lj14a, lj14b, lj15a, lj15b, lj16a, lj16b, lj17a, lj17b, lj18a, lj18b, lj19a, lj19b, ob_co r.o, c_f1 r, c_f2 r, c_f3 r, c_f4 r, c_f5 r, mo_gk r.o, mo_gv r.o, c_isSeller r.o r.g0, c_isSort r.o r.g0, ar_ik r.g0, ar_ia r.g0, ar_is r.g0, c1, c2.1, c2.2.1, c2.2.2.1, c2.2.2.2]
    exact k.er r ok
  rw [if_pos ⟨c1, c2⟩] at k
  have key : ex_ X (d + 9) 199 35 [.ref 96, .int a, .int b, .int c, .double 0] [] h Q := by
    by_cases c3 : b = 0
    · subst c3
      simp only [not_true_eq_false, false_and, if_false, if_true] at k
      obtain ⟨s, hs, rfl⟩ := nI_rng (k := 3) (by decide) c1
      rw [nI_clamp (by omega)] at k
      have r1 := r.s10 (f := upd (A 10) s 0)
      have g1 := r1.g11
      rw [up2_n (by decide)] at g1
      have r2 := r1.s11 (f := upd (A 11) s 0)
      have e0 := mx_setid r2.g12
      rw [up2_n (by decide), up2_n (by decide)] at e0
      have hl := c_sheet_l (X := X) (d := d) (Q := Q) (s := s) (w2 := .int 0) (w3 := .int c) (by omega) r2 rfl 40 0 (by decide)
      rw [up2_n (by decide), up2_n (by decide)] at hl
      have ez : zs_ (A 12) s 0 = A 12 := by funext j; unfold zs_; rw [if_neg (by omega)]
      rw [ez, e0] at hl
      simp only [i199_0, i199_1, i199_4, i199_7, i199_8, i199_11, i199_12, i199_14, i199_17, i199_18, i199_20, i199_23, i199_24, i199_26, i199_29, i199_30, i199_31, i199_34, i199_35, i199_36, i199_39, i199_40, i199_43, i199_44, i199_45, i199_48, i199_49, i199_50, i199_53, i199_54, i199_56, i199_59, i199_60, i199_61, i199_64, i199_65, i199_66, i199_69, i199_70, i199_71, i199_72, i199_73, i199_76, i199_77, i199_78, i199_81, i199_82, i199_85, i199_86, i199_87, i199_88, i199_92, i199_94, i199_97, i199_98, i199_101, i199_103, i199_104, i199_105, i199_107, i199_108, i199_109, i199_110, i199_113, i199_116, i199_117, i199_e, c_in, c_isAhead, c_isSheet, c_areRight, bi_eq0, decide_true, decide_false, and_self, if_true, if_false, reduceCtorEq, not_true_eq_false, not_false_eq_true, mx_k0, mx_t0, fa_wide_le, Option.toList_some, Option.toList_none, List.nil_append, List.cons_append, true_and, and_true, eq_self, true_or, or_true, bi_01, mx_nl_i, mx_nl_r, mx_nl_n, mx_nl_f, mx_nl_d, lj0a, lj0b, lj1a, lj1b, lj2a, lj2b, lj3a, lj3b, lj4a, lj4b, lj5a, lj5b, lj6a, lj6b, lj7a, lj7b, lj8a, lj8b, lj9a, lj9b, lj10a, lj10b, lj11a, lj11b, lj12a, lj12b, lj13a, lj13b, lj14a, lj14b, lj15a, lj15b, lj16a, lj16b, lj17a, lj17b, lj18a, lj18b, lj19a, lj19b, ob_co r.o, c_f1 r, c_f2 r, c_f3 r, c_f4 r, c_f5 r, mo_gk r.o, mo_gv r.o, c_isSeller r.o r.g0, c_isSort r.o r.g0, ar_ik r.g0, ar_ia r.g0, ar_is r.g0, ar_ik r.g10, ar_is r.g10, mo_gk r1.o, mo_gv r1.o, ar_ik g1, ar_is g1, mx_inN (show s < 4 by omega) (by decide), nI_clamp (show s < 2 ^ 31 by omega)]
      refine hl.mpr ?_
      refine k _ v _ ⟨r2.s12, ((FR.set (by decide) (by decide)).tr (FR.set (by decide) (by decide))).tr (FR.set (by decide) (by decide)), rfl, rfl, SM.rf _, ?_⟩
      rw [up2_n (by decide), up2_n (by decide), up2_n (by decide)]
      exact ok.2.1
    · simp only [c3, not_false_eq_true, true_and, if_false] at k
      by_cases c4 : c < 0
      · rw [if_pos c4] at k
        simp only [i199_0, i199_1, i199_4, i199_7, i199_8, i199_11, i199_12, i199_14, i199_17, i199_18, i199_20, i199_23, i199_24, i199_26, i199_29, i199_30, i199_31, i199_34, i199_35, i199_36, i199_39, i199_40, i199_43, i199_44, i199_45, i199_48, i199_49, i199_50, i199_53, i199_54, i199_56, i199_59, i199_60, i199_61, i199_64, i199_65, i199_66, i199_69, i199_70, i199_71, i199_72, i199_73, i199_76, i199_77, i199_78, i199_81, i199_82, i199_85, i199_86, i199_87, i199_88, i199_92, i199_94, i199_97, i199_98, i199_101, i199_103, i199_104, i199_105, i199_107, i199_108, i199_109, i199_110, i199_113, i199_116, i199_117, i199_e, c_in, c_isAhead, c_isSheet, c_areRight, bi_eq0, decide_true, decide_false, and_self, if_true, if_false, reduceCtorEq, not_true_eq_false, not_false_eq_true, mx_k0, mx_t0, fa_wide_le, Option.toList_some, Option.toList_none, List.nil_append, List.cons_append, true_and, and_true, eq_self, true_or, or_true, bi_01, mx_nl_i, mx_nl_r, mx_nl_n, mx_nl_f, mx_nl_d, lj0a, lj0b, lj1a, lj1b, lj2a, lj2b, lj3a, lj3b, lj4a, lj4b, lj5a, lj5b, lj6a, lj6b, lj7a, lj7b, lj8a, lj8b, lj9a, lj9b, lj10a, lj10b, lj11a, lj11b, lj12a, lj12b, lj13a, lj13b, lj14a, lj14b, lj15a, lj15b, lj16a, lj16b, lj17a, lj17b, lj18a, lj18b, lj19a, lj19b, ob_co r.o, c_f1 r, c_f2 r, c_f3 r, c_f4 r, c_f5 r, mo_gk r.o, mo_gv r.o, c_isSeller r.o r.g0, c_isSort r.o r.g0, ar_ik r.g0, ar_ia r.g0, ar_is r.g0, c3, Int32.not_le.mpr c4]
        exact k.er r ok
      · rw [if_neg c4] at k
        by_cases c5 : 40 < c
        · rw [if_pos c5] at k
          simp only [i199_0, i199_1, i199_4, i199_7, i199_8, i199_11, i199_12, i199_14, i199_17, i199_18, i199_20, i199_23, i199_24, i199_26, i199_29, i199_30, i199_31, i199_34, i199_35, i199_36, i199_39, i199_40, i199_43, i199_44, i199_45, i199_48, i199_49, i199_50, i199_53, i199_54, i199_56, i199_59, i199_60, i199_61, i199_64, i199_65, i199_66, i199_69, i199_70, i199_71, i199_72, i199_73, i199_76, i199_77, i199_78, i199_81, i199_82, i199_85, i199_86, i199_87, i199_88, i199_92, i199_94, i199_97, i199_98, i199_101, i199_103, i199_104, i199_105, i199_107, i199_108, i199_109, i199_110, i199_113, i199_116, i199_117, i199_e, c_in, c_isAhead, c_isSheet, c_areRight, bi_eq0, decide_true, decide_false, and_self, if_true, if_false, reduceCtorEq, not_true_eq_false, not_false_eq_true, mx_k0, mx_t0, fa_wide_le, Option.toList_some, Option.toList_none, List.nil_append, List.cons_append, true_and, and_true, eq_self, true_or, or_true, bi_01, mx_nl_i, mx_nl_r, mx_nl_n, mx_nl_f, mx_nl_d, lj0a, lj0b, lj1a, lj1b, lj2a, lj2b, lj3a, lj3b, lj4a, lj4b, lj5a, lj5b, lj6a, lj6b, lj7a, lj7b, lj8a, lj8b, lj9a, lj9b, lj10a, lj10b, lj11a, lj11b, lj12a, lj12b, lj13a, lj13b, lj14a, lj14b, lj15a, lj15b, lj16a, lj16b, lj17a, lj17b, lj18a, lj18b, lj19a, lj19b, ob_co r.o, c_f1 r, c_f2 r, c_f3 r, c_f4 r, c_f5 r, mo_gk r.o, mo_gv r.o, c_isSeller r.o r.g0, c_isSort r.o r.g0, ar_ik r.g0, ar_ia r.g0, ar_is r.g0, c3, Int32.not_lt.mp c4, Int32.not_le.mpr c5]
          exact k.er r ok
        · rw [if_neg c5] at k
          obtain ⟨s, hs, rfl⟩ := nI_rng (k := 3) (by decide) c1
          rw [nI_clamp (by omega)] at k
          have r1 := r.s10 (f := upd (A 10) s b)
          have g1 := r1.g11
          rw [up2_n (by decide)] at g1
          have r2 := r1.s11 (f := upd (A 11) s c)
          have e0 := mx_setid r2.g12
          rw [up2_n (by decide), up2_n (by decide)] at e0
          have hl := c_sheet_l (X := X) (d := d) (Q := Q) (s := s) (w2 := .int b) (w3 := .int c) (by omega) r2 rfl 40 0 (by decide)
          rw [up2_n (by decide), up2_n (by decide)] at hl
          have ez : zs_ (A 12) s 0 = A 12 := by funext j; unfold zs_; rw [if_neg (by omega)]
          rw [ez, e0] at hl
          simp only [i199_0, i199_1, i199_4, i199_7, i199_8, i199_11, i199_12, i199_14, i199_17, i199_18, i199_20, i199_23, i199_24, i199_26, i199_29, i199_30, i199_31, i199_34, i199_35, i199_36, i199_39, i199_40, i199_43, i199_44, i199_45, i199_48, i199_49, i199_50, i199_53, i199_54, i199_56, i199_59, i199_60, i199_61, i199_64, i199_65, i199_66, i199_69, i199_70, i199_71, i199_72, i199_73, i199_76, i199_77, i199_78, i199_81, i199_82, i199_85, i199_86, i199_87, i199_88, i199_92, i199_94, i199_97, i199_98, i199_101, i199_103, i199_104, i199_105, i199_107, i199_108, i199_109, i199_110, i199_113, i199_116, i199_117, i199_e, c_in, c_isAhead, c_isSheet, c_areRight, bi_eq0, decide_true, decide_false, and_self, if_true, if_false, reduceCtorEq, not_true_eq_false, not_false_eq_true, mx_k0, mx_t0, fa_wide_le, Option.toList_some, Option.toList_none, List.nil_append, List.cons_append, true_and, and_true, eq_self, true_or, or_true, bi_01, mx_nl_i, mx_nl_r, mx_nl_n, mx_nl_f, mx_nl_d, lj0a, lj0b, lj1a, lj1b, lj2a, lj2b, lj3a, lj3b, lj4a, lj4b, lj5a, lj5b, lj6a, lj6b, lj7a, lj7b, lj8a, lj8b, lj9a, lj9b, lj10a, lj10b, lj11a, lj11b, lj12a, lj12b, lj13a, lj13b, lj14a, lj14b, lj15a, lj15b, lj16a, lj16b, lj17a, lj17b, lj18a, lj18b, lj19a, lj19b, ob_co r.o, c_f1 r, c_f2 r, c_f3 r, c_f4 r, c_f5 r, mo_gk r.o, mo_gv r.o, c_isSeller r.o r.g0, c_isSort r.o r.g0, ar_ik r.g0, ar_ia r.g0, ar_is r.g0, c3, Int32.not_lt.mp c4, Int32.not_lt.mp c5, ar_ik r.g10, ar_is r.g10, mo_gk r1.o, mo_gv r1.o, ar_ik g1, ar_is g1, mx_inN (show s < 4 by omega) (by decide), nI_clamp (show s < 2 ^ 31 by omega)]
          refine hl.mpr ?_
          refine k _ v _ ⟨r2.s12, ((FR.set (by decide) (by decide)).tr (FR.set (by decide) (by decide))).tr (FR.set (by decide) (by decide)), rfl, rfl, SM.rf _, ?_⟩
          rw [up2_n (by decide), up2_n (by decide), up2_n (by decide)]
          exact ok.2.1
  by_cases d0 : b = 0
  · simp only [i199_0, i199_1, i199_4, i199_7, i199_8, i199_11, i199_12, i199_14, i199_17, i199_18, i199_20, i199_23, i199_24, i199_26, i199_29, i199_30, i199_31, i199_34, i199_36, i199_39, i199_40, i199_43, i199_44, i199_45, i199_48, i199_49, i199_50, i199_53, i199_54, i199_56, i199_59, i199_60, i199_61, i199_64, i199_65, i199_66, i199_69, i199_70, i199_71, i199_72, i199_73, i199_76, i199_77, i199_78, i199_81, i199_82, i199_85, i199_86, i199_87, i199_88, i199_90, i199_92, i199_94, i199_97, i199_98, i199_101, i199_103, i199_104, i199_105, i199_107, i199_108, i199_109, i199_110, i199_113, i199_116, i199_117, i199_e, c_in, c_isAhead, c_isSheet, c_areRight, bi_eq0, decide_true, decide_false, and_self, if_true, if_false, reduceCtorEq, not_true_eq_false, not_false_eq_true, mx_k0, mx_t0, fa_wide_le, Option.toList_some, Option.toList_none, List.nil_append, List.cons_append, true_and, and_true, eq_self, true_or, or_true, bi_01, mx_nl_i, mx_nl_r, mx_nl_n, mx_nl_f, mx_nl_d, lj0a, lj0b, lj1a, lj1b, lj2a, lj2b, lj3a, lj3b, lj4a, lj4b, lj5a, lj5b, lj6a, lj6b, lj7a, lj7b, lj8a, lj8b, lj9a, lj9b, lj10a, lj10b, lj11a, lj11b, lj12a, lj12b, lj13a, lj13b, lj14a, lj14b, lj15a, lj15b, lj16a, lj16b, lj17a, lj17b, lj18a, lj18b, lj19a, lj19b, ob_co r.o, c_f1 r, c_f2 r, c_f3 r, c_f4 r, c_f5 r, mo_gk r.o, mo_gv r.o, c_isSeller r.o r.g0, c_isSort r.o r.g0, ar_ik r.g0, ar_ia r.g0, ar_is r.g0, c1, d0]
    rw [d0] at key
    exact key
  · by_cases d1 : b = 8
    · simp only [i199_0, i199_1, i199_4, i199_7, i199_8, i199_11, i199_12, i199_14, i199_17, i199_18, i199_20, i199_23, i199_24, i199_26, i199_29, i199_30, i199_31, i199_34, i199_36, i199_39, i199_40, i199_43, i199_44, i199_45, i199_48, i199_49, i199_50, i199_53, i199_54, i199_56, i199_59, i199_60, i199_61, i199_64, i199_65, i199_66, i199_69, i199_70, i199_71, i199_72, i199_73, i199_76, i199_77, i199_78, i199_81, i199_82, i199_85, i199_86, i199_87, i199_88, i199_90, i199_92, i199_94, i199_97, i199_98, i199_101, i199_103, i199_104, i199_105, i199_107, i199_108, i199_109, i199_110, i199_113, i199_116, i199_117, i199_e, c_in, c_isAhead, c_isSheet, c_areRight, bi_eq0, decide_true, decide_false, and_self, if_true, if_false, reduceCtorEq, not_true_eq_false, not_false_eq_true, mx_k0, mx_t0, fa_wide_le, Option.toList_some, Option.toList_none, List.nil_append, List.cons_append, true_and, and_true, eq_self, true_or, or_true, bi_01, mx_nl_i, mx_nl_r, mx_nl_n, mx_nl_f, mx_nl_d, lj0a, lj0b, lj1a, lj1b, lj2a, lj2b, lj3a, lj3b, lj4a, lj4b, lj5a, lj5b, lj6a, lj6b, lj7a, lj7b, lj8a, lj8b, lj9a, lj9b, lj10a, lj10b, lj11a, lj11b, lj12a, lj12b, lj13a, lj13b, lj14a, lj14b, lj15a, lj15b, lj16a, lj16b, lj17a, lj17b, lj18a, lj18b, lj19a, lj19b, ob_co r.o, c_f1 r, c_f2 r, c_f3 r, c_f4 r, c_f5 r, mo_gk r.o, mo_gv r.o, c_isSeller r.o r.g0, c_isSort r.o r.g0, ar_ik r.g0, ar_ia r.g0, ar_is r.g0, c1, d1, show ¬ ((8 : Int32) = 0) from by decide]
      rw [d1] at key
      exact key
    · by_cases d2 : b = 16
      · simp only [i199_0, i199_1, i199_4, i199_7, i199_8, i199_11, i199_12, i199_14, i199_17, i199_18, i199_20, i199_23, i199_24, i199_26, i199_29, i199_30, i199_31, i199_34, i199_36, i199_39, i199_40, i199_43, i199_44, i199_45, i199_48, i199_49, i199_50, i199_53, i199_54, i199_56, i199_59, i199_60, i199_61, i199_64, i199_65, i199_66, i199_69, i199_70, i199_71, i199_72, i199_73, i199_76, i199_77, i199_78, i199_81, i199_82, i199_85, i199_86, i199_87, i199_88, i199_90, i199_92, i199_94, i199_97, i199_98, i199_101, i199_103, i199_104, i199_105, i199_107, i199_108, i199_109, i199_110, i199_113, i199_116, i199_117, i199_e, c_in, c_isAhead, c_isSheet, c_areRight, bi_eq0, decide_true, decide_false, and_self, if_true, if_false, reduceCtorEq, not_true_eq_false, not_false_eq_true, mx_k0, mx_t0, fa_wide_le, Option.toList_some, Option.toList_none, List.nil_append, List.cons_append, true_and, and_true, eq_self, true_or, or_true, bi_01, mx_nl_i, mx_nl_r, mx_nl_n, mx_nl_f, mx_nl_d, lj0a, lj0b, lj1a, lj1b, lj2a, lj2b, lj3a, lj3b, lj4a, lj4b, lj5a, lj5b, lj6a, lj6b, lj7a, lj7b, lj8a, lj8b, lj9a, lj9b, lj10a, lj10b, lj11a, lj11b, lj12a, lj12b, lj13a, lj13b, lj14a, lj14b, lj15a, lj15b, lj16a, lj16b, lj17a, lj17b, lj18a, lj18b, lj19a, lj19b, ob_co r.o, c_f1 r, c_f2 r, c_f3 r, c_f4 r, c_f5 r, mo_gk r.o, mo_gv r.o, c_isSeller r.o r.g0, c_isSort r.o r.g0, ar_ik r.g0, ar_ia r.g0, ar_is r.g0, c1, d2, show ¬ ((16 : Int32) = 0) from by decide, show ¬ ((16 : Int32) = 8) from by decide]
        rw [d2] at key
        exact key
      · have d3 : b = 32 := ((c2.resolve_left d0).resolve_left d1).resolve_left d2
        simp only [i199_0, i199_1, i199_4, i199_7, i199_8, i199_11, i199_12, i199_14, i199_17, i199_18, i199_20, i199_23, i199_24, i199_26, i199_29, i199_30, i199_31, i199_34, i199_36, i199_39, i199_40, i199_43, i199_44, i199_45, i199_48, i199_49, i199_50, i199_53, i199_54, i199_56, i199_59, i199_60, i199_61, i199_64, i199_65, i199_66, i199_69, i199_70, i199_71, i199_72, i199_73, i199_76, i199_77, i199_78, i199_81, i199_82, i199_85, i199_86, i199_87, i199_88, i199_90, i199_92, i199_94, i199_97, i199_98, i199_101, i199_103, i199_104, i199_105, i199_107, i199_108, i199_109, i199_110, i199_113, i199_116, i199_117, i199_e, c_in, c_isAhead, c_isSheet, c_areRight, bi_eq0, decide_true, decide_false, and_self, if_true, if_false, reduceCtorEq, not_true_eq_false, not_false_eq_true, mx_k0, mx_t0, fa_wide_le, Option.toList_some, Option.toList_none, List.nil_append, List.cons_append, true_and, and_true, eq_self, true_or, or_true, bi_01, mx_nl_i, mx_nl_r, mx_nl_n, mx_nl_f, mx_nl_d, lj0a, lj0b, lj1a, lj1b, lj2a, lj2b, lj3a, lj3b, lj4a, lj4b, lj5a, lj5b, lj6a, lj6b, lj7a, lj7b, lj8a, lj8b, lj9a, lj9b, lj10a, lj10b, lj11a, lj11b, lj12a, lj12b, lj13a, lj13b, lj14a, lj14b, lj15a, lj15b, lj16a, lj16b, lj17a, lj17b, lj18a, lj18b, lj19a, lj19b, ob_co r.o, c_f1 r, c_f2 r, c_f3 r, c_f4 r, c_f5 r, mo_gk r.o, mo_gv r.o, c_isSeller r.o r.g0, c_isSort r.o r.g0, ar_ik r.g0, ar_ia r.g0, ar_is r.g0, c1, d3, show ¬ ((32 : Int32) = 0) from by decide, show ¬ ((32 : Int32) = 8) from by decide, show ¬ ((32 : Int32) = 16) from by decide]
        rw [d3] at key
        exact key
/-- put -/
def nrw (b x : Int32) : Int32 := if b = 8 then x.toInt8.toInt32 else if b = 16 then x.toInt16.toInt32 else x
def sp_put (v : Nat → Int32) (A : Nat → Nat → Int32) (a b c : Int32) : PR := if 0 ≤ a ∧ a ≤ 3 then (if A 10 a.toNatClampNeg = 0 then er_ v A 2 else if 0 ≤ b ∧ b ≤ A 11 a.toNatClampNeg - 1 then (1, v, up2 A 12 (upd (A 12) (40 * a.toNatClampNeg + b.toNatClampNeg) (nrw (A 10 a.toNatClampNeg) c))) else er_ v A 1) else er_ v A 1
theorem r_put (r : RW h v A) (ok : OK v A) {a b c : Int32} (k : KR h (sp_put v A a b c) Q) : ev_ X (d + 9) 200 [.ref 96, .int a, .int b, .int c] h Q := by
  unfold sp_put at k
  by_cases c1 : 0 ≤ a ∧ a ≤ 3
  case neg =>
    rw [if_neg c1] at k
    simp only [i200_0, i200_1, i200_4, i200_7, i200_8, i200_9, i200_12, i200_13, i200_14, i200_17, i200_18, i200_19, i200_22, i200_23, i200_24, i200_27, i200_28, i200_29, i200_30, i200_31, i200_32, i200_35, i200_36, i200_37, i200_38, i200_39, i200_40, i200_43, i200_46, i200_47, i200_48, i200_51, i200_52, i200_53, i200_56, i200_58, i200_59, i200_60, i200_61, i200_62, i200_63, i200_66, i200_67, i200_68, i200_70, i200_73, i200_74, i200_75, i200_78, i200_79, i200_82, i200_83, i200_84, i200_86, i200_89, i200_90, i200_91, i200_94, i200_95, i200_96, i200_97, i200_e, c_in, c_isAhead, c_isSheet, c_areRight, bi_eq0, decide_true, decide_false, and_self, if_true, if_false, reduceCtorEq, not_true_eq_false, not_false_eq_true, mx_k0, mx_t0, fa_wide_le, Option.toList_some, Option.toList_none, List.nil_append, List.cons_append, true_and, and_true, eq_self, true_or, or_true, bi_01, mx_nl_i, mx_nl_r, mx_nl_n, mx_nl_f, mx_nl_d, lj0a, lj0b, lj1a, lj1b, lj2a, lj2b, lj3a, lj3b, lj4a, lj4b, lj5a, lj5b, lj6a, lj6b, lj7a, lj7b, lj8a, lj8b, lj9a, lj9b, lj10a, lj10b, lj11a, lj11b, lj12a, lj12b, lj13a, lj13b, lj14a, lj14b, lj15a, lj15b, lj16a, lj16b, lj17a, lj17b, lj18a, lj18b, lj19a, lj19b, ob_co r.o, c_f1 r, c_f2 r, c_f3 r, c_f4 r, c_f5 r, mo_gk r.o, mo_gv r.o, c_isSeller r.o r.g0, c_isSort r.o r.g0, ar_ik r.g0, ar_ia r.g0, ar_is r.g0, c1]
    exact k.er r ok
  rw [if_pos c1] at k
  obtain ⟨s, hs, rfl⟩ := nI_rng (k := 3) (by decide) c1
  rw [nI_clamp (by omega)] at k
  have i4 : mx_in (nI s) 4 = true := mx_inN (by omega) (by decide)
  have t4 : (nI s).toNatClampNeg = s := nI_clamp (by omega)
  obtain ⟨⟨n, hn, en⟩, -⟩ := ok.2.2.2.2.2 s (by omega)
  by_cases c2 : A 10 s = 0
  · rw [if_pos c2] at k
    simp only [i200_0, i200_1, i200_4, i200_7, i200_8, i200_9, i200_12, i200_13, i200_14, i200_17, i200_18, i200_19, i200_22, i200_23, i200_24, i200_27, i200_28, i200_29, i200_30, i200_31, i200_32, i200_35, i200_36, i200_37, i200_38, i200_39, i200_40, i200_43, i200_46, i200_47, i200_48, i200_51, i200_52, i200_53, i200_56, i200_58, i200_59, i200_60, i200_61, i200_62, i200_63, i200_66, i200_67, i200_68, i200_70, i200_73, i200_74, i200_75, i200_78, i200_79, i200_82, i200_83, i200_84, i200_86, i200_89, i200_90, i200_91, i200_94, i200_95, i200_96, i200_97, i200_e, c_in, c_isAhead, c_isSheet, c_areRight, bi_eq0, decide_true, decide_false, and_self, if_true, if_false, reduceCtorEq, not_true_eq_false, not_false_eq_true, mx_k0, mx_t0, fa_wide_le, Option.toList_some, Option.toList_none, List.nil_append, List.cons_append, true_and, and_true, eq_self, true_or, or_true, bi_01, mx_nl_i, mx_nl_r, mx_nl_n, mx_nl_f, mx_nl_d, lj0a, lj0b, lj1a, lj1b, lj2a, lj2b, lj3a, lj3b, lj4a, lj4b, lj5a, lj5b, lj6a, lj6b, lj7a, lj7b, lj8a, lj8b, lj9a, lj9b, lj10a, lj10b, lj11a, lj11b, lj12a, lj12b, lj13a, lj13b, lj14a, lj14b, lj15a, lj15b, lj16a, lj16b, lj17a, lj17b, lj18a, lj18b, lj19a, lj19b, ob_co r.o, c_f1 r, c_f2 r, c_f3 r, c_f4 r, c_f5 r, mo_gk r.o, mo_gv r.o, c_isSeller r.o r.g0, c_isSort r.o r.g0, ar_ik r.g0, ar_ia r.g0, ar_is r.g0, c1, ar_ik r.g10, ar_ia r.g10, i4, t4, c2]
    exact k.er r ok
  rw [if_neg c2] at k
  by_cases c3 : 0 ≤ b ∧ b ≤ A 11 s - 1
  case neg =>
    rw [if_neg c3] at k
    simp only [i200_0, i200_1, i200_4, i200_7, i200_8, i200_9, i200_12, i200_13, i200_14, i200_17, i200_18, i200_19, i200_22, i200_23, i200_24, i200_27, i200_28, i200_29, i200_30, i200_31, i200_32, i200_35, i200_36, i200_37, i200_38, i200_39, i200_40, i200_43, i200_46, i200_47, i200_48, i200_51, i200_52, i200_53, i200_56, i200_58, i200_59, i200_60, i200_61, i200_62, i200_63, i200_66, i200_67, i200_68, i200_70, i200_73, i200_74, i200_75, i200_78, i200_79, i200_82, i200_83, i200_84, i200_86, i200_89, i200_90, i200_91, i200_94, i200_95, i200_96, i200_97, i200_e, c_in, c_isAhead, c_isSheet, c_areRight, bi_eq0, decide_true, decide_false, and_self, if_true, if_false, reduceCtorEq, not_true_eq_false, not_false_eq_true, mx_k0, mx_t0, fa_wide_le, Option.toList_some, Option.toList_none, List.nil_append, List.cons_append, true_and, and_true, eq_self, true_or, or_true, bi_01, mx_nl_i, mx_nl_r, mx_nl_n, mx_nl_f, mx_nl_d, lj0a, lj0b, lj1a, lj1b, lj2a, lj2b, lj3a, lj3b, lj4a, lj4b, lj5a, lj5b, lj6a, lj6b, lj7a, lj7b, lj8a, lj8b, lj9a, lj9b, lj10a, lj10b, lj11a, lj11b, lj12a, lj12b, lj13a, lj13b, lj14a, lj14b, lj15a, lj15b, lj16a, lj16b, lj17a, lj17b, lj18a, lj18b, lj19a, lj19b, ob_co r.o, c_f1 r, c_f2 r, c_f3 r, c_f4 r, c_f5 r, mo_gk r.o, mo_gv r.o, c_isSeller r.o r.g0, c_isSort r.o r.g0, ar_ik r.g0, ar_ia r.g0, ar_is r.g0, c1, ar_ik r.g10, ar_ia r.g10, ar_ik r.g11, ar_ia r.g11, i4, t4, c2, c3]
    exact k.er r ok
  rw [if_pos c3] at k
  have c3' := c3
  rw [en] at c3'
  obtain ⟨w, hw, rfl⟩ := nI_sel (by omega) c3'
  rw [nI_clamp (by omega)] at k
  have x0 : (40 * nI s + nI w : Int32) = nI (40 * s + w) := by
    show nI 40 * nI s + nI w = _
    rw [pk_mul, nI_add]
  have z1 : Z_ (up2 A 12 (upd (A 12) (40 * s + w) (nrw (A 10 s) c)) 1) := by rw [up2_n (by decide)]; exact ok.2.1
  have kk := k _ v _ ⟨r.s12, FR.set (by decide) (by decide), rfl, rfl, SM.rf _, z1⟩
  unfold nrw at kk
  by_cases c5 : A 10 s = 8
  · rw [if_pos c5] at kk
    simp only [i200_0, i200_1, i200_4, i200_7, i200_8, i200_9, i200_12, i200_13, i200_14, i200_17, i200_18, i200_19, i200_22, i200_23, i200_24, i200_27, i200_28, i200_29, i200_30, i200_31, i200_32, i200_35, i200_36, i200_37, i200_38, i200_39, i200_40, i200_43, i200_46, i200_47, i200_48, i200_51, i200_52, i200_53, i200_56, i200_58, i200_59, i200_60, i200_61, i200_62, i200_63, i200_66, i200_67, i200_68, i200_70, i200_73, i200_74, i200_75, i200_78, i200_79, i200_82, i200_83, i200_84, i200_86, i200_89, i200_90, i200_91, i200_94, i200_95, i200_96, i200_97, i200_e, c_in, c_isAhead, c_isSheet, c_areRight, bi_eq0, decide_true, decide_false, and_self, if_true, if_false, reduceCtorEq, not_true_eq_false, not_false_eq_true, mx_k0, mx_t0, fa_wide_le, Option.toList_some, Option.toList_none, List.nil_append, List.cons_append, true_and, and_true, eq_self, true_or, or_true, bi_01, mx_nl_i, mx_nl_r, mx_nl_n, mx_nl_f, mx_nl_d, lj0a, lj0b, lj1a, lj1b, lj2a, lj2b, lj3a, lj3b, lj4a, lj4b, lj5a, lj5b, lj6a, lj6b, lj7a, lj7b, lj8a, lj8b, lj9a, lj9b, lj10a, lj10b, lj11a, lj11b, lj12a, lj12b, lj13a, lj13b, lj14a, lj14b, lj15a, lj15b, lj16a, lj16b, lj17a, lj17b, lj18a, lj18b, lj19a, lj19b, ob_co r.o, c_f1 r, c_f2 r, c_f3 r, c_f4 r, c_f5 r, mo_gk r.o, mo_gv r.o, c_isSeller r.o r.g0, c_isSort r.o r.g0, ar_ik r.g0, ar_ia r.g0, ar_is r.g0, c1, ar_ik r.g10, ar_ia r.g10, ar_ik r.g11, ar_ia r.g11, i4, t4, c2, c3, c5, show ¬ ((8 : Int32) = 0) from by decide, x0, ar_ik r.g12, ar_is r.g12, mx_inN (show 40 * s + w < 160 by omega) (by decide), nI_clamp (show 40 * s + w < 2 ^ 31 by omega)]
    exact kk
  · rw [if_neg c5] at kk
    by_cases c6 : A 10 s = 16
    · rw [if_pos c6] at kk
      simp only [i200_0, i200_1, i200_4, i200_7, i200_8, i200_9, i200_12, i200_13, i200_14, i200_17, i200_18, i200_19, i200_22, i200_23, i200_24, i200_27, i200_28, i200_29, i200_30, i200_31, i200_32, i200_35, i200_36, i200_37, i200_38, i200_39, i200_40, i200_43, i200_46, i200_47, i200_48, i200_51, i200_52, i200_53, i200_56, i200_58, i200_59, i200_60, i200_61, i200_62, i200_63, i200_66, i200_67, i200_68, i200_70, i200_73, i200_74, i200_75, i200_78, i200_79, i200_82, i200_83, i200_84, i200_86, i200_89, i200_90, i200_91, i200_94, i200_95, i200_96, i200_97, i200_e, c_in, c_isAhead, c_isSheet, c_areRight, bi_eq0, decide_true, decide_false, and_self, if_true, if_false, reduceCtorEq, not_true_eq_false, not_false_eq_true, mx_k0, mx_t0, fa_wide_le, Option.toList_some, Option.toList_none, List.nil_append, List.cons_append, true_and, and_true, eq_self, true_or, or_true, bi_01, mx_nl_i, mx_nl_r, mx_nl_n, mx_nl_f, mx_nl_d, lj0a, lj0b, lj1a, lj1b, lj2a, lj2b, lj3a, lj3b, lj4a, lj4b, lj5a, lj5b, lj6a, lj6b, lj7a, lj7b, lj8a, lj8b, lj9a, lj9b, lj10a, lj10b, lj11a, lj11b, lj12a, lj12b, lj13a, lj13b, lj14a, lj14b, lj15a, lj15b, lj16a, lj16b, lj17a, lj17b, lj18a, lj18b, lj19a, lj19b, ob_co r.o, c_f1 r, c_f2 r, c_f3 r, c_f4 r, c_f5 r, mo_gk r.o, mo_gv r.o, c_isSeller r.o r.g0, c_isSort r.o r.g0, ar_ik r.g0, ar_ia r.g0, ar_is r.g0, c1, ar_ik r.g10, ar_ia r.g10, ar_ik r.g11, ar_ia r.g11, i4, t4, c2, c3, c6, show ¬ ((16 : Int32) = 0) from by decide, show ¬ ((16 : Int32) = 8) from by decide, x0, ar_ik r.g12, ar_is r.g12, mx_inN (show 40 * s + w < 160 by omega) (by decide), nI_clamp (show 40 * s + w < 2 ^ 31 by omega)]
      exact kk
    · rw [if_neg c6] at kk
      simp only [i200_0, i200_1, i200_4, i200_7, i200_8, i200_9, i200_12, i200_13, i200_14, i200_17, i200_18, i200_19, i200_22, i200_23, i200_24, i200_27, i200_28, i200_29, i200_30, i200_31, i200_32, i200_35, i200_36, i200_37, i200_38, i200_39, i200_40, i200_43, i200_46, i200_47, i200_48, i200_51, i200_52, i200_53, i200_56, i200_58, i200_59, i200_60, i200_61, i200_62, i200_63, i200_66, i200_67, i200_68, i200_70, i200_73, i200_74, i200_75, i200_78, i200_79, i200_82, i200_83, i200_84, i200_86, i200_89, i200_90, i200_91, i200_94, i200_95, i200_96, i200_97, i200_e, c_in, c_isAhead, c_isSheet, c_areRight, bi_eq0, decide_true, decide_false, and_self, if_true, if_false, reduceCtorEq, not_true_eq_false, not_false_eq_true, mx_k0, mx_t0, fa_wide_le, Option.toList_some, Option.toList_none, List.nil_append, List.cons_append, true_and, and_true, eq_self, true_or, or_true, bi_01, mx_nl_i, mx_nl_r, mx_nl_n, mx_nl_f, mx_nl_d, lj0a, lj0b, lj1a, lj1b, lj2a, lj2b, lj3a, lj3b, lj4a, lj4b, lj5a, lj5b, lj6a, lj6b, lj7a, lj7b, lj8a, lj8b, lj9a, lj9b, lj10a, lj10b, lj11a, lj11b, lj12a, lj12b, lj13a, lj13b, lj14a, lj14b, lj15a, lj15b, lj16a, lj16b, lj17a, lj17b, lj18a, lj18b, lj19a, lj19b, ob_co r.o, c_f1 r, c_f2 r, c_f3 r, c_f4 r, c_f5 r, mo_gk r.o, mo_gv r.o, c_isSeller r.o r.g0, c_isSort r.o r.g0, ar_ik r.g0, ar_ia r.g0, ar_is r.g0, c1, ar_ik r.g10, ar_ia r.g10, ar_ik r.g11, ar_ia r.g11, i4, t4, c2, c3, c5, c6, x0, ar_ik r.g12, ar_is r.g12, mx_inN (show 40 * s + w < 160 by omega) (by decide), nI_clamp (show 40 * s + w < 2 ^ 31 by omega)]
      exact kk
/-- move -/
def sp_move (v : Nat → Int32) (A : Nat → Nat → Int32) (a i b j n : Int32) : PR := if (0 ≤ a ∧ a ≤ 3) ∧ (0 ≤ b ∧ b ≤ 3) then (if A 10 a.toNatClampNeg = 0 ∨ A 10 b.toNatClampNeg = 0 then er_ v A 2 else if A 10 a.toNatClampNeg = A 10 b.toNatClampNeg then (if n < 0 ∨ i < 0 ∨ j < 0 ∨ A 11 a.toNatClampNeg - i < n ∨ A 11 b.toNatClampNeg - j < n then er_ v A 1 else (n, v, up2 A 12 (va_cpy (A 12) (A 12) (40 * a.toNatClampNeg + i.toNatClampNeg) (40 * b.toNatClampNeg + j.toNatClampNeg) n.toNatClampNeg))) else er_ v A 5) else er_ v A 1
theorem c_move_1 {s i n o j : Nat} (hs : s < 4) (hi : i + n ≤ 40) (r : RW h v A) (fin : ∀ (w6 : Value) (f : Nat → Int32), (∀ x, x < n → f x = A 12 (40 * s + i + x)) → ex_ X (d + 9) 201 149 [.ref 96, .int (nI s), .int (nI i), .int (nI o), .int (nI j), .int (nI n), w6] [] (h.set 110 (.inl (0, 40, .inl f))) Q) :
    ∀ m k (f : Nat → Int32), k + m = n → (∀ x, x < k → f x = A 12 (40 * s + i + x)) → ex_ X (d + 9) 201 115 [.ref 96, .int (nI s), .int (nI i), .int (nI o), .int (nI j), .int (nI n), .int (nI k)] [] (h.set 110 (.inl (0, 40, .inl f))) Q := by
  intro m
  induction m with
  | zero =>
    intro k f hk hf
    have e : k = n := by omega
    subst e
    rw [i201_115]
    simp only [i201_0, i201_1, i201_4, i201_7, i201_8, i201_11, i201_14, i201_15, i201_16, i201_19, i201_20, i201_21, i201_24, i201_25, i201_26, i201_29, i201_30, i201_33, i201_34, i201_35, i201_38, i201_39, i201_40, i201_43, i201_44, i201_45, i201_48, i201_49, i201_50, i201_51, i201_54, i201_55, i201_56, i201_59, i201_60, i201_61, i201_64, i201_65, i201_67, i201_70, i201_71, i201_74, i201_76, i201_79, i201_81, i201_82, i201_85, i201_86, i201_87, i201_88, i201_89, i201_92, i201_94, i201_95, i201_98, i201_99, i201_100, i201_102, i201_103, i201_106, i201_107, i201_108, i201_111, i201_112, i201_113, i201_117, i201_119, i201_122, i201_123, i201_126, i201_128, i201_129, i201_132, i201_134, i201_135, i201_136, i201_137, i201_138, i201_140, i201_141, i201_142, i201_143, i201_146, i201_150, i201_152, i201_154, i201_156, i201_159, i201_160, i201_163, i201_165, i201_166, i201_167, i201_169, i201_170, i201_172, i201_173, i201_174, i201_177, i201_179, i201_180, i201_181, i201_184, i201_187, i201_189, i201_e, Int32.le_refl, c_in, c_isAhead, c_isSheet, c_areRight, bi_eq0, decide_true, decide_false, and_self, if_true, if_false, reduceCtorEq, not_true_eq_false, not_false_eq_true, mx_k0, mx_t0, fa_wide_le, Option.toList_some, Option.toList_none, List.nil_append, List.cons_append, true_and, and_true, eq_self, true_or, or_true, bi_01, mx_nl_i, mx_nl_r, mx_nl_n, mx_nl_f, mx_nl_d, lj0a, lj0b, lj1a, lj1b, lj2a, lj2b, lj3a, lj3b, lj4a, lj4b, lj5a, lj5b, lj6a, lj6b, lj7a, lj7b, lj8a, lj8b, lj9a, lj9b, lj10a, lj10b, lj11a, lj11b, lj12a, lj12b, lj13a, lj13b, lj14a, lj14b, lj15a, lj15b, lj16a, lj16b, lj17a, lj17b, lj18a, lj18b, lj19a, lj19b]
    exact fin _ f hf
  | succ m ih =>
    intro k f hk hf
    have hc : ¬ ((nI n : Int32) ≤ nI k) := by rw [nI_leI (by omega) (by omega)]; omega
    have r1 := r.s13 (f := f)
    have g1 := r1.g13
    have g2 := r1.g12
    rw [up2_s] at g1
    rw [up2_n (by decide)] at g2
    have x0 : (40 * nI s + nI i + nI k : Int32) = nI (40 * s + i + k) := by
      show nI 40 * nI s + nI i + nI k = _
      rw [pk_mul, nI_add, nI_add]
    rw [i201_115]
    simp only [i201_0, i201_1, i201_4, i201_7, i201_8, i201_11, i201_14, i201_15, i201_16, i201_19, i201_20, i201_21, i201_24, i201_25, i201_26, i201_29, i201_30, i201_33, i201_34, i201_35, i201_38, i201_39, i201_40, i201_43, i201_44, i201_45, i201_48, i201_49, i201_50, i201_51, i201_54, i201_55, i201_56, i201_59, i201_60, i201_61, i201_64, i201_65, i201_67, i201_70, i201_71, i201_74, i201_76, i201_79, i201_81, i201_82, i201_85, i201_86, i201_87, i201_88, i201_89, i201_92, i201_94, i201_95, i201_98, i201_99, i201_100, i201_102, i201_103, i201_106, i201_107, i201_108, i201_111, i201_112, i201_113, i201_117, i201_119, i201_122, i201_123, i201_126, i201_128, i201_129, i201_132, i201_134, i201_135, i201_136, i201_137, i201_138, i201_140, i201_141, i201_142, i201_143, i201_146, i201_150, i201_152, i201_154, i201_156, i201_159, i201_160, i201_163, i201_165, i201_166, i201_167, i201_169, i201_170, i201_172, i201_173, i201_174, i201_177, i201_179, i201_180, i201_181, i201_184, i201_187, i201_189, i201_e, c_in, c_isAhead, c_isSheet, c_areRight, bi_eq0, decide_true, decide_false, and_self, if_true, if_false, reduceCtorEq, not_true_eq_false, not_false_eq_true, mx_k0, mx_t0, fa_wide_le, Option.toList_some, Option.toList_none, List.nil_append, List.cons_append, true_and, and_true, eq_self, true_or, or_true, bi_01, mx_nl_i, mx_nl_r, mx_nl_n, mx_nl_f, mx_nl_d, lj0a, lj0b, lj1a, lj1b, lj2a, lj2b, lj3a, lj3b, lj4a, lj4b, lj5a, lj5b, lj6a, lj6b, lj7a, lj7b, lj8a, lj8b, lj9a, lj9b, lj10a, lj10b, lj11a, lj11b, lj12a, lj12b, lj13a, lj13b, lj14a, lj14b, lj15a, lj15b, lj16a, lj16b, lj17a, lj17b, lj18a, lj18b, lj19a, lj19b, hc, mo_gk r1.o, mo_gv r1.o, ar_ik g1, ar_is g1, ar_ik g2, ar_ia g2, x0, mx_inN (show 40 * s + i + k < 160 by omega) (by decide), nI_clamp (show 40 * s + i + k < 2 ^ 31 by omega), mx_inN (show k < 40 by omega) (by decide), nI_clamp (show k < 2 ^ 31 by omega), List.set_set, nI_1]
    refine ih (k + 1) _ (by omega) (fun x hx => ?_)
    unfold upd
    split
    · rename_i e; rw [e]
    · exact hf x (by omega)
theorem c_move_2 {s i n o j : Nat} (ho : o < 4) (hj : j + n ≤ 40) (r : RW h v A) {f : Nat → Int32} (hf : ∀ x, x < n → f x = A 12 (40 * s + i + x)) (hr : A 13 = f) (k' : KR h (nI n, v, up2 A 12 (va_cpy (A 12) (A 12) (40 * s + i) (40 * o + j) n)) Q) (z1 : Z_ (A 1)) :
    ∀ m k, k + m = n → ex_ X (d + 9) 201 152 [.ref 96, .int (nI s), .int (nI i), .int (nI o), .int (nI j), .int (nI n), .int (nI k)] [] (h.set 109 (.inl (0, 160, .inl (va_cpy (A 12) (A 12) (40 * s + i) (40 * o + j) k)))) Q := by
  intro m
  induction m with
  | zero =>
    intro k hk
    have e : k = n := by omega
    subst e
    rw [i201_152]
    simp only [i201_0, i201_1, i201_4, i201_7, i201_8, i201_11, i201_14, i201_15, i201_16, i201_19, i201_20, i201_21, i201_24, i201_25, i201_26, i201_29, i201_30, i201_33, i201_34, i201_35, i201_38, i201_39, i201_40, i201_43, i201_44, i201_45, i201_48, i201_49, i201_50, i201_51, i201_54, i201_55, i201_56, i201_59, i201_60, i201_61, i201_64, i201_65, i201_67, i201_70, i201_71, i201_74, i201_76, i201_79, i201_81, i201_82, i201_85, i201_86, i201_87, i201_88, i201_89, i201_92, i201_94, i201_95, i201_98, i201_99, i201_100, i201_102, i201_103, i201_106, i201_107, i201_108, i201_111, i201_112, i201_113, i201_115, i201_117, i201_119, i201_122, i201_123, i201_126, i201_128, i201_129, i201_132, i201_134, i201_135, i201_136, i201_137, i201_138, i201_140, i201_141, i201_142, i201_143, i201_146, i201_149, i201_150, i201_154, i201_156, i201_159, i201_160, i201_163, i201_165, i201_166, i201_167, i201_169, i201_170, i201_172, i201_173, i201_174, i201_177, i201_179, i201_180, i201_181, i201_184, i201_187, i201_189, i201_e, Int32.le_refl, c_in, c_isAhead, c_isSheet, c_areRight, bi_eq0, decide_true, decide_false, and_self, if_true, if_false, reduceCtorEq, not_true_eq_false, not_false_eq_true, mx_k0, mx_t0, fa_wide_le, Option.toList_some, Option.toList_none, List.nil_append, List.cons_append, true_and, and_true, eq_self, true_or, or_true, bi_01, mx_nl_i, mx_nl_r, mx_nl_n, mx_nl_f, mx_nl_d, lj0a, lj0b, lj1a, lj1b, lj2a, lj2b, lj3a, lj3b, lj4a, lj4b, lj5a, lj5b, lj6a, lj6b, lj7a, lj7b, lj8a, lj8b, lj9a, lj9b, lj10a, lj10b, lj11a, lj11b, lj12a, lj12b, lj13a, lj13b, lj14a, lj14b, lj15a, lj15b, lj16a, lj16b, lj17a, lj17b, lj18a, lj18b, lj19a, lj19b]
    exact k' _ v _ ⟨r.s12, FR.set (by decide) (by decide), rfl, rfl, SM.rf _, by rw [up2_n (by decide)]; exact z1⟩
  | succ m ih =>
    intro k hk
    have hc : ¬ ((nI n : Int32) ≤ nI k) := by rw [nI_leI (by omega) (by omega)]; omega
    have r1 := r.s12 (f := va_cpy (A 12) (A 12) (40 * s + i) (40 * o + j) k)
    have g1 := r1.g12
    have g2 := r1.g13
    rw [up2_s] at g1
    rw [up2_n (by decide), hr] at g2
    have x0 : (40 * nI o + nI j + nI k : Int32) = nI (40 * o + j + k) := by
      show nI 40 * nI o + nI j + nI k = _
      rw [pk_mul, nI_add, nI_add]
    have e : upd (va_cpy (A 12) (A 12) (40 * s + i) (40 * o + j) k) (40 * o + j + k) (f k) = va_cpy (A 12) (A 12) (40 * s + i) (40 * o + j) (k + 1) := by
      funext x
      unfold upd
      by_cases e1 : x = 40 * o + j + k
      · rw [if_pos e1, pk_cpy_in (by omega) (by omega), hf k (by omega), e1]
        congr 1
        omega
      · rw [if_neg e1]
        by_cases e2 : 40 * o + j ≤ x ∧ x < 40 * o + j + k
        · rw [pk_cpy_in e2.1 e2.2, pk_cpy_in (by omega) (by omega)]
        · rw [pk_cpy_out (by omega), pk_cpy_out (by omega)]
    rw [i201_152]
    simp only [i201_0, i201_1, i201_4, i201_7, i201_8, i201_11, i201_14, i201_15, i201_16, i201_19, i201_20, i201_21, i201_24, i201_25, i201_26, i201_29, i201_30, i201_33, i201_34, i201_35, i201_38, i201_39, i201_40, i201_43, i201_44, i201_45, i201_48, i201_49, i201_50, i201_51, i201_54, i201_55, i201_56, i201_59, i201_60, i201_61, i201_64, i201_65, i201_67, i201_70, i201_71, i201_74, i201_76, i201_79, i201_81, i201_82, i201_85, i201_86, i201_87, i201_88, i201_89, i201_92, i201_94, i201_95, i201_98, i201_99, i201_100, i201_102, i201_103, i201_106, i201_107, i201_108, i201_111, i201_112, i201_113, i201_115, i201_117, i201_119, i201_122, i201_123, i201_126, i201_128, i201_129, i201_132, i201_134, i201_135, i201_136, i201_137, i201_138, i201_140, i201_141, i201_142, i201_143, i201_146, i201_149, i201_150, i201_154, i201_156, i201_159, i201_160, i201_163, i201_165, i201_166, i201_167, i201_169, i201_170, i201_172, i201_173, i201_174, i201_177, i201_179, i201_180, i201_181, i201_184, i201_187, i201_189, i201_e, c_in, c_isAhead, c_isSheet, c_areRight, bi_eq0, decide_true, decide_false, and_self, if_true, if_false, reduceCtorEq, not_true_eq_false, not_false_eq_true, mx_k0, mx_t0, fa_wide_le, Option.toList_some, Option.toList_none, List.nil_append, List.cons_append, true_and, and_true, eq_self, true_or, or_true, bi_01, mx_nl_i, mx_nl_r, mx_nl_n, mx_nl_f, mx_nl_d, lj0a, lj0b, lj1a, lj1b, lj2a, lj2b, lj3a, lj3b, lj4a, lj4b, lj5a, lj5b, lj6a, lj6b, lj7a, lj7b, lj8a, lj8b, lj9a, lj9b, lj10a, lj10b, lj11a, lj11b, lj12a, lj12b, lj13a, lj13b, lj14a, lj14b, lj15a, lj15b, lj16a, lj16b, lj17a, lj17b, lj18a, lj18b, lj19a, lj19b, hc, mo_gk r1.o, mo_gv r1.o, ar_ik g1, ar_is g1, ar_ik g2, ar_ia g2, x0, mx_inN (show 40 * o + j + k < 160 by omega) (by decide), nI_clamp (show 40 * o + j + k < 2 ^ 31 by omega), mx_inN (show k < 40 by omega) (by decide), nI_clamp (show k < 2 ^ 31 by omega), List.set_set, nI_1, e]
    exact ih (k + 1) (by omega)
end RB
