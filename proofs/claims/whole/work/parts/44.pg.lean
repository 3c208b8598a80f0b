/-! the reference's calls: what is lost, how to begin, rights -/
def bo_ (f : Int32) (m : Nat → Int32) (n : Nat) (l : Int32) : Int32 := if m (20 + 8 * n + 2) ≤ f then (if m (20 + 8 * n + 4) ≤ l then m (20 + 8 * n + 4) else l) else 0
def l1_ (f : Int32) (m : Nat → Int32) (l p : Int32) : Nat → (Nat → Int32) × Int32 × Int32
  | 0 => (m, l, p)
  | n + 1 => (upd (l1_ f m l p n).1 (20 + 8 * n + 4) ((l1_ f m l p n).1 (20 + 8 * n + 4) - bo_ f (l1_ f m l p n).1 n (l1_ f m l p n).2.1), (l1_ f m l p n).2.1 - bo_ f (l1_ f m l p n).1 n (l1_ f m l p n).2.1, (l1_ f m l p n).2.2 + bo_ f (l1_ f m l p n).1 n (l1_ f m l p n).2.1)
def l2_ (ns : Nat) (m : Nat → Int32) : Nat → (Nat → Int32) × Int32
  | 0 => (m, 0)
  | n + 1 => ((l1_ (fe_ (l2_ ns m n).1 n) (l2_ ns m n).1 ((l2_ ns m n).1 (70 + 4 * n + 3)) (l2_ ns m n).2 ns).1, (l1_ (fe_ (l2_ ns m n).1 n) (l2_ ns m n).1 ((l2_ ns m n).1 (70 + 4 * n + 3)) (l2_ ns m n).2 ns).2.2)
theorem l1_at {f l p : Int32} {m : Nat → Int32} {j : Nat} (hj : ¬ (20 ≤ j ∧ j < 68 ∧ (j - 20) % 8 = 4)) : ∀ n, n ≤ 6 → (l1_ f m l p n).1 j = m j
  | 0, _ => rfl
  | n + 1, hn => by
    unfold l1_
    simp only
    rw [pk_un (by omega)]
    exact l1_at hj n (by omega)
theorem l2_at {ns : Nat} {m : Nat → Int32} {j : Nat} (hns : ns ≤ 6) (hj : ¬ (20 ≤ j ∧ j < 68 ∧ (j - 20) % 8 = 4)) : ∀ n, (l2_ ns m n).1 j = m j
  | 0 => rfl
  | n + 1 => by
    unfold l2_
    simp only
    rw [l1_at hj ns hns]
    exact l2_at hns hj n
theorem fe_at {m m' : Nat → Int32} {b : Nat} (h3 : ∃ e : Nat, e < 3 ∧ m 3 = nI e) (hh : ∀ j, (j < 20 ∨ 68 ≤ j) → m' j = m j) : fe_ m' b = fe_ m b := by
  obtain ⟨e, he, h3⟩ := h3
  unfold fe_
  rw [hh (70 + 4 * b + 1) (by omega), hh 3 (by omega), h3, nI_clamp (by omega), hh (4 + e) (by omega)]
section RE
variable {X : MXX} {d : Nat} {h : MXH} {Q : MXP} {v : Nat → Int32} {A : Nat → Nat → Int32}
set_option maxHeartbeats 1000000 in
theorem c_lost_1 (r : RW h v A) {ns b : Nat} {m : Nat → Int32} {l p : Int32} {w1 : Value} (hw1 : mx_nl w1 = true) (hb : b < 8) (hns : ns ≤ 6) (e1 : m 1 = nI ns) (h3 : ∃ e : Nat, e < 3 ∧ m 3 = nI e)
    (fin : ∀ (w5 w6 w7 : Value), mx_nl w6 = true → ex_ X (d + 9) 180 148 [.ref 96, w1, .int (l1_ (fe_ m b) m l p ns).2.2, .int (nI b), .int (l1_ (fe_ m b) m l p ns).2.1, w5, w6, w7] [] (h.set 98 (.inl (0, 280, .inl (l1_ (fe_ m b) m l p ns).1))) Q) :
    ∀ n k (w6 w7 : Value), k + n = ns → mx_nl w6 = true → ex_ X (d + 9) 180 46 [.ref 96, w1, .int (l1_ (fe_ m b) m l p k).2.2, .int (nI b), .int (l1_ (fe_ m b) m l p k).2.1, .int (nI k), w6, w7] [] (h.set 98 (.inl (0, 280, .inl (l1_ (fe_ m b) m l p k).1))) Q := by
  intro n
  induction n with
  | zero =>
    intro k w6 w7 hk hw6
    have e : k = ns := by omega
    subst e
    have r1 := r.s1 (f := (l1_ (fe_ m b) m l p k).1)
    have g1 := r1.g1
    rw [up2_s] at g1
    have e1' : (l1_ (fe_ m b) m l p k).1 1 = nI k := by rw [l1_at (by omega) k hns, e1]
    rw [i180_46]
    simp only [i180_0, i180_1, i180_4, i180_7, i180_8, i180_9, i180_12, i180_13, i180_14, i180_15, i180_18, i180_19, i180_20, i180_21, i180_22, i180_23, i180_24, i180_27, i180_28, i180_29, i180_32, i180_33, i180_36, i180_37, i180_38, i180_41, i180_43, i180_44, i180_48, i180_49, i180_52, i180_53, i180_54, i180_57, i180_58, i180_61, i180_63, i180_64, i180_67, i180_69, i180_70, i180_73, i180_75, i180_76, i180_79, i180_80, i180_83, i180_84, i180_87, i180_90, i180_91, i180_94, i180_96, i180_98, i180_101, i180_103, i180_106, i180_108, i180_110, i180_111, i180_114, i180_116, i180_118, i180_120, i180_121, i180_122, i180_123, i180_124, i180_125, i180_126, i180_128, i180_129, i180_130, i180_132, i180_134, i180_135, i180_137, i180_138, i180_140, i180_141, i180_142, i180_145, i180_151, i180_154, i180_155, i180_e, c_in, c_isAhead, c_isSheet, c_areRight, bi_eq0, decide_true, decide_false, and_self, if_true, if_false, reduceCtorEq, not_true_eq_false, not_false_eq_true, mx_k0, mx_t0, fa_wide_le, Option.toList_some, Option.toList_none, List.nil_append, List.cons_append, true_and, and_true, eq_self, true_or, or_true, bi_01, mx_nl_i, mx_nl_r, mx_nl_n, mx_nl_f, mx_nl_d, lj0a, lj0b, lj1a, lj1b, lj2a, lj2b, lj3a, lj3b, lj4a, lj4b, lj5a, lj5b, lj6a, lj6b, lj7a, lj7b, lj8a, lj8b, lj9a, lj9b, lj10a, lj10b, lj11a, lj11b, lj12a, lj12b, lj13a, lj13b, lj14a, lj14b, lj15a, lj15b, lj16a, lj16b, lj17a, lj17b, lj18a, lj18b, lj19a, lj19b, mo_gk r1.o, mo_gv r1.o, ar_ik g1, ar_ia g1, e1', Int32.le_refl]
    exact fin _ _ _ hw6
  | succ n ih =>
    intro k w6 w7 hk hw6
    have hc : ¬ ((nI ns : Int32) ≤ nI k) := by rw [nI_leI (by omega) (by omega)]; omega
    have hk6 : k < 6 := by omega
    have ih := fun w6 w7 hw => ih (k + 1) w6 w7 (by omega) hw
    simp only [l1_] at ih
    have e1' : (l1_ (fe_ m b) m l p k).1 1 = nI ns := by rw [l1_at (by omega) k (by omega), e1]
    have e3' : ∃ e : Nat, e < 3 ∧ (l1_ (fe_ m b) m l p k).1 3 = nI e := by rw [l1_at (by omega) k (by omega)]; exact h3
    have ef : fe_ (l1_ (fe_ m b) m l p k).1 b = fe_ m b := fe_at h3 (fun j hj => l1_at (by omega) k (by omega))
    generalize hq : l1_ (fe_ m b) m l p k = q at ih e1' e3' ef ⊢
    obtain ⟨m', l', p'⟩ := q
    simp only at ih e1' e3' ef ⊢
    have r1 := r.s1 (f := m')
    have g1 := r1.g1
    rw [up2_s] at g1
    have x0 : (20 + 8 * nI k + 4 : Int32) = nI (20 + 8 * k + 4) := mx_ix 20 8 k 4
    have i0 : mx_in (nI (20 + 8 * k + 4)) 280 = true := mx_inN (by omega) (by decide)
    have t0 : (nI (20 + 8 * k + 4)).toNatClampNeg = 20 + 8 * k + 4 := nI_clamp (by omega)
    rw [i180_46]
    unfold bo_ at ih
    by_cases c1 : m' (20 + 8 * k + 2) ≤ fe_ m b
    · by_cases c2 : m' (20 + 8 * k + 4) ≤ l'
      · simp only [c1, c2, if_true] at ih
        simp only [i180_0, i180_1, i180_4, i180_7, i180_8, i180_9, i180_12, i180_13, i180_14, i180_15, i180_18, i180_19, i180_20, i180_21, i180_22, i180_23, i180_24, i180_27, i180_28, i180_29, i180_32, i180_33, i180_36, i180_37, i180_38, i180_41, i180_43, i180_44, i180_48, i180_49, i180_52, i180_53, i180_54, i180_57, i180_58, i180_61, i180_63, i180_64, i180_67, i180_69, i180_70, i180_73, i180_75, i180_76, i180_79, i180_80, i180_83, i180_84, i180_87, i180_90, i180_91, i180_94, i180_96, i180_98, i180_101, i180_103, i180_106, i180_108, i180_110, i180_111, i180_114, i180_116, i180_118, i180_120, i180_121, i180_122, i180_123, i180_124, i180_125, i180_126, i180_128, i180_129, i180_130, i180_132, i180_134, i180_135, i180_137, i180_138, i180_140, i180_141, i180_142, i180_145, i180_151, i180_154, i180_155, i180_e, c_in, c_isAhead, c_isSheet, c_areRight, bi_eq0, decide_true, decide_false, and_self, if_true, if_false, reduceCtorEq, not_true_eq_false, not_false_eq_true, mx_k0, mx_t0, fa_wide_le, Option.toList_some, Option.toList_none, List.nil_append, List.cons_append, true_and, and_true, eq_self, true_or, or_true, bi_01, mx_nl_i, mx_nl_r, mx_nl_n, mx_nl_f, mx_nl_d, lj0a, lj0b, lj1a, lj1b, lj2a, lj2b, lj3a, lj3b, lj4a, lj4b, lj5a, lj5b, lj6a, lj6b, lj7a, lj7b, lj8a, lj8b, lj9a, lj9b, lj10a, lj10b, lj11a, lj11b, lj12a, lj12b, lj13a, lj13b, lj14a, lj14b, lj15a, lj15b, lj16a, lj16b, lj17a, lj17b, lj18a, lj18b, lj19a, lj19b, mo_gk r1.o, mo_gv r1.o, ar_ik g1, ar_ia g1, ar_is g1, e1', hc, hw1, hw6, c_se4 g1 hk6, c_se2 g1 hk6, c_feels g1 hb e3', ef, c1, c2, x0, i0, t0, List.set_set, nI_1]
        exact ih _ _ rfl
      · simp only [c1, c2, if_true, if_false] at ih
        simp only [i180_0, i180_1, i180_4, i180_7, i180_8, i180_9, i180_12, i180_13, i180_14, i180_15, i180_18, i180_19, i180_20, i180_21, i180_22, i180_23, i180_24, i180_27, i180_28, i180_29, i180_32, i180_33, i180_36, i180_37, i180_38, i180_41, i180_43, i180_44, i180_48, i180_49, i180_52, i180_53, i180_54, i180_57, i180_58, i180_61, i180_63, i180_64, i180_67, i180_69, i180_70, i180_73, i180_75, i180_76, i180_79, i180_80, i180_83, i180_84, i180_87, i180_90, i180_91, i180_94, i180_96, i180_98, i180_101, i180_103, i180_106, i180_108, i180_110, i180_111, i180_114, i180_116, i180_118, i180_120, i180_121, i180_122, i180_123, i180_124, i180_125, i180_126, i180_128, i180_129, i180_130, i180_132, i180_134, i180_135, i180_137, i180_138, i180_140, i180_141, i180_142, i180_145, i180_151, i180_154, i180_155, i180_e, c_in, c_isAhead, c_isSheet, c_areRight, bi_eq0, decide_true, decide_false, and_self, if_true, if_false, reduceCtorEq, not_true_eq_false, not_false_eq_true, mx_k0, mx_t0, fa_wide_le, Option.toList_some, Option.toList_none, List.nil_append, List.cons_append, true_and, and_true, eq_self, true_or, or_true, bi_01, mx_nl_i, mx_nl_r, mx_nl_n, mx_nl_f, mx_nl_d, lj0a, lj0b, lj1a, lj1b, lj2a, lj2b, lj3a, lj3b, lj4a, lj4b, lj5a, lj5b, lj6a, lj6b, lj7a, lj7b, lj8a, lj8b, lj9a, lj9b, lj10a, lj10b, lj11a, lj11b, lj12a, lj12b, lj13a, lj13b, lj14a, lj14b, lj15a, lj15b, lj16a, lj16b, lj17a, lj17b, lj18a, lj18b, lj19a, lj19b, mo_gk r1.o, mo_gv r1.o, ar_ik g1, ar_ia g1, ar_is g1, e1', hc, hw1, hw6, c_se4 g1 hk6, c_se2 g1 hk6, c_feels g1 hb e3', ef, c1, c2, x0, i0, t0, List.set_set, nI_1]
        exact ih _ _ rfl
    · simp only [c1, if_false] at ih
      simp only [i180_0, i180_1, i180_4, i180_7, i180_8, i180_9, i180_12, i180_13, i180_14, i180_15, i180_18, i180_19, i180_20, i180_21, i180_22, i180_23, i180_24, i180_27, i180_28, i180_29, i180_32, i180_33, i180_36, i180_37, i180_38, i180_41, i180_43, i180_44, i180_48, i180_49, i180_52, i180_53, i180_54, i180_57, i180_58, i180_61, i180_63, i180_64, i180_67, i180_69, i180_70, i180_73, i180_75, i180_76, i180_79, i180_80, i180_83, i180_84, i180_87, i180_90, i180_91, i180_94, i180_96, i180_98, i180_101, i180_103, i180_106, i180_108, i180_110, i180_111, i180_114, i180_116, i180_118, i180_120, i180_121, i180_122, i180_123, i180_124, i180_125, i180_126, i180_128, i180_129, i180_130, i180_132, i180_134, i180_135, i180_137, i180_138, i180_140, i180_141, i180_142, i180_145, i180_151, i180_154, i180_155, i180_e, c_in, c_isAhead, c_isSheet, c_areRight, bi_eq0, decide_true, decide_false, and_self, if_true, if_false, reduceCtorEq, not_true_eq_false, not_false_eq_true, mx_k0, mx_t0, fa_wide_le, Option.toList_some, Option.toList_none, List.nil_append, List.cons_append, true_and, and_true, eq_self, true_or, or_true, bi_01, mx_nl_i, mx_nl_r, mx_nl_n, mx_nl_f, mx_nl_d, lj0a, lj0b, lj1a, lj1b, lj2a, lj2b, lj3a, lj3b, lj4a, lj4b, lj5a, lj5b, lj6a, lj6b, lj7a, lj7b, lj8a, lj8b, lj9a, lj9b, lj10a, lj10b, lj11a, lj11b, lj12a, lj12b, lj13a, lj13b, lj14a, lj14b, lj15a, lj15b, lj16a, lj16b, lj17a, lj17b, lj18a, lj18b, lj19a, lj19b, mo_gk r1.o, mo_gv r1.o, ar_ik g1, ar_ia g1, ar_is g1, e1', hc, hw1, hw6, c_se4 g1 hk6, c_se2 g1 hk6, c_feels g1 hb e3', ef, c1, x0, i0, t0, List.set_set, nI_1]
      exact ih _ _ rfl
theorem c_lost_2 (r : RW h v A) {ns nb : Nat} {m : Nat → Int32} {w1 : Value} (hw1 : mx_nl w1 = true) (md : MD m ns nb) (k' : Q (some (.int (l2_ ns m nb).2)) (h.set 98 (.inl (0, 280, .inl (l2_ ns m nb).1)))) :
    ∀ n k (w4 w5 w6 w7 : Value), k + n = nb → mx_nl w4 = true → mx_nl w6 = true → ex_ X (d + 9) 180 22 [.ref 96, w1, .int (l2_ ns m k).2, .int (nI k), w4, w5, w6, w7] [] (h.set 98 (.inl (0, 280, .inl (l2_ ns m k).1))) Q := by
  obtain ⟨hns, hnb, e1, e2, e3⟩ := md
  intro n
  induction n with
  | zero =>
    intro k w4 w5 w6 w7 hk hw4 hw6
    have e : k = nb := by omega
    subst e
    have r1 := r.s1 (f := (l2_ ns m k).1)
    have g1 := r1.g1
    rw [up2_s] at g1
    have e2' : (l2_ ns m k).1 2 = nI k := by rw [l2_at hns (by omega), e2]
    rw [i180_22]
    simp only [i180_0, i180_1, i180_4, i180_7, i180_8, i180_9, i180_12, i180_13, i180_14, i180_15, i180_18, i180_19, i180_20, i180_21, i180_23, i180_24, i180_27, i180_28, i180_29, i180_32, i180_33, i180_36, i180_37, i180_38, i180_41, i180_43, i180_44, i180_48, i180_49, i180_52, i180_53, i180_54, i180_57, i180_58, i180_61, i180_63, i180_64, i180_67, i180_69, i180_70, i180_73, i180_75, i180_76, i180_79, i180_80, i180_83, i180_84, i180_87, i180_90, i180_91, i180_94, i180_96, i180_98, i180_101, i180_103, i180_106, i180_108, i180_110, i180_111, i180_114, i180_116, i180_118, i180_120, i180_121, i180_122, i180_123, i180_124, i180_125, i180_126, i180_128, i180_129, i180_130, i180_132, i180_134, i180_135, i180_137, i180_138, i180_140, i180_141, i180_142, i180_145, i180_148, i180_151, i180_154, i180_155, i180_e, c_in, c_isAhead, c_isSheet, c_areRight, bi_eq0, decide_true, decide_false, and_self, if_true, if_false, reduceCtorEq, not_true_eq_false, not_false_eq_true, mx_k0, mx_t0, fa_wide_le, Option.toList_some, Option.toList_none, List.nil_append, List.cons_append, true_and, and_true, eq_self, true_or, or_true, bi_01, mx_nl_i, mx_nl_r, mx_nl_n, mx_nl_f, mx_nl_d, lj0a, lj0b, lj1a, lj1b, lj2a, lj2b, lj3a, lj3b, lj4a, lj4b, lj5a, lj5b, lj6a, lj6b, lj7a, lj7b, lj8a, lj8b, lj9a, lj9b, lj10a, lj10b, lj11a, lj11b, lj12a, lj12b, lj13a, lj13b, lj14a, lj14b, lj15a, lj15b, lj16a, lj16b, lj17a, lj17b, lj18a, lj18b, lj19a, lj19b, mo_gk r1.o, mo_gv r1.o, ar_ik g1, ar_ia g1, e2', Int32.le_refl]
    exact k'
  | succ n ih =>
    intro k w4 w5 w6 w7 hk hw4 hw6
    have hc : ¬ ((nI nb : Int32) ≤ nI k) := by rw [nI_leI (by omega) (by omega)]; omega
    have r1 := r.s1 (f := (l2_ ns m k).1)
    have g1 := r1.g1
    rw [up2_s] at g1
    have e1' : (l2_ ns m k).1 1 = nI ns := by rw [l2_at hns (by omega), e1]
    have e2' : (l2_ ns m k).1 2 = nI nb := by rw [l2_at hns (by omega), e2]
    have e3' : ∃ e : Nat, e < 3 ∧ (l2_ ns m k).1 3 = nI e := by rw [l2_at hns (by omega)]; exact e3
    rw [i180_22]
    simp only [i180_0, i180_1, i180_4, i180_7, i180_8, i180_9, i180_12, i180_13, i180_14, i180_15, i180_18, i180_19, i180_20, i180_21, i180_23, i180_24, i180_27, i180_28, i180_29, i180_32, i180_33, i180_36, i180_37, i180_38, i180_41, i180_43, i180_44, i180_48, i180_49, i180_52, i180_53, i180_54, i180_57, i180_58, i180_61, i180_63, i180_64, i180_67, i180_69, i180_70, i180_73, i180_75, i180_76, i180_79, i180_80, i180_83, i180_84, i180_87, i180_90, i180_91, i180_94, i180_96, i180_98, i180_101, i180_103, i180_106, i180_108, i180_110, i180_111, i180_114, i180_116, i180_118, i180_120, i180_121, i180_122, i180_123, i180_124, i180_125, i180_126, i180_128, i180_129, i180_130, i180_132, i180_134, i180_135, i180_137, i180_138, i180_140, i180_141, i180_142, i180_145, i180_148, i180_151, i180_154, i180_155, i180_e, c_in, c_isAhead, c_isSheet, c_areRight, bi_eq0, decide_true, decide_false, and_self, if_true, if_false, reduceCtorEq, not_true_eq_false, not_false_eq_true, mx_k0, mx_t0, fa_wide_le, Option.toList_some, Option.toList_none, List.nil_append, List.cons_append, true_and, and_true, eq_self, true_or, or_true, bi_01, mx_nl_i, mx_nl_r, mx_nl_n, mx_nl_f, mx_nl_d, lj0a, lj0b, lj1a, lj1b, lj2a, lj2b, lj3a, lj3b, lj4a, lj4b, lj5a, lj5b, lj6a, lj6b, lj7a, lj7b, lj8a, lj8b, lj9a, lj9b, lj10a, lj10b, lj11a, lj11b, lj12a, lj12b, lj13a, lj13b, lj14a, lj14b, lj15a, lj15b, lj16a, lj16b, lj17a, lj17b, lj18a, lj18b, lj19a, lj19b, mo_gk r1.o, mo_gv r1.o, ar_ik g1, ar_ia g1, e2', hc, hw1, hw4, c_so3 g1 (show k < 8 by omega)]
    refine c_lost_1 (m := (l2_ ns m k).1) (l := (l2_ ns m k).1 (70 + 4 * k + 3)) (p := (l2_ ns m k).2) r hw1 (by omega) hns e1' e3' (fun w5 w6 w7 hw => ?_) ns 0 w6 w7 (by omega) hw6
    have ih2 := fun w5 w6 w7 hw => ih (k + 1) (.int (l1_ (fe_ (l2_ ns m k).1 k) (l2_ ns m k).1 ((l2_ ns m k).1 (70 + 4 * k + 3)) (l2_ ns m k).2 ns).2.1) w5 w6 w7 (by omega) rfl hw
    simp only [l2_] at ih2
    simp only [i180_0, i180_1, i180_4, i180_7, i180_8, i180_9, i180_12, i180_13, i180_14, i180_15, i180_18, i180_19, i180_20, i180_21, i180_23, i180_24, i180_27, i180_28, i180_29, i180_32, i180_33, i180_36, i180_37, i180_38, i180_41, i180_43, i180_44, i180_48, i180_49, i180_52, i180_53, i180_54, i180_57, i180_58, i180_61, i180_63, i180_64, i180_67, i180_69, i180_70, i180_73, i180_75, i180_76, i180_79, i180_80, i180_83, i180_84, i180_87, i180_90, i180_91, i180_94, i180_96, i180_98, i180_101, i180_103, i180_106, i180_108, i180_110, i180_111, i180_114, i180_116, i180_118, i180_120, i180_121, i180_122, i180_123, i180_124, i180_125, i180_126, i180_128, i180_129, i180_130, i180_132, i180_134, i180_135, i180_137, i180_138, i180_140, i180_141, i180_142, i180_145, i180_148, i180_151, i180_154, i180_155, i180_e, c_in, c_isAhead, c_isSheet, c_areRight, bi_eq0, decide_true, decide_false, and_self, if_true, if_false, reduceCtorEq, not_true_eq_false, not_false_eq_true, mx_k0, mx_t0, fa_wide_le, Option.toList_some, Option.toList_none, List.nil_append, List.cons_append, true_and, and_true, eq_self, true_or, or_true, bi_01, mx_nl_i, mx_nl_r, mx_nl_n, mx_nl_f, mx_nl_d, lj0a, lj0b, lj1a, lj1b, lj2a, lj2b, lj3a, lj3b, lj4a, lj4b, lj5a, lj5b, lj6a, lj6b, lj7a, lj7b, lj8a, lj8b, lj9a, lj9b, lj10a, lj10b, lj11a, lj11b, lj12a, lj12b, lj13a, lj13b, lj14a, lj14b, lj15a, lj15b, lj16a, lj16b, lj17a, lj17b, lj18a, lj18b, lj19a, lj19b, nI_1]
    exact ih2 _ _ _ hw
def sp_lost (v : Nat → Int32) (A : Nat → Nat → Int32) (n : Int32) : PR := if (0 ≤ n ∧ n ≤ 60) then ((l2_ (nsA A) (fw_ A (A 0) n.toNatClampNeg) (nbA A)).2, v, A) else er_ v A 1
theorem r_lost (r : RW h v A) (ok : OK v A) {n : Int32} (k : KR h (sp_lost v A n) Q) : ev_ X (d + 9) 180 [.ref 96, .int n] h Q := by
  unfold sp_lost at k
  by_cases c0 : (0 ≤ n ∧ n ≤ 60)
  case neg =>
    rw [if_neg c0] at k
    simp only [i180_0, i180_1, i180_4, i180_7, i180_8, i180_9, i180_12, i180_13, i180_14, i180_15, i180_18, i180_19, i180_20, i180_21, i180_22, i180_23, i180_24, i180_27, i180_28, i180_29, i180_32, i180_33, i180_36, i180_37, i180_38, i180_41, i180_43, i180_44, i180_46, i180_48, i180_49, i180_52, i180_53, i180_54, i180_57, i180_58, i180_61, i180_63, i180_64, i180_67, i180_69, i180_70, i180_73, i180_75, i180_76, i180_79, i180_80, i180_83, i180_84, i180_87, i180_90, i180_91, i180_94, i180_96, i180_98, i180_101, i180_103, i180_106, i180_108, i180_110, i180_111, i180_114, i180_116, i180_118, i180_120, i180_121, i180_122, i180_123, i180_124, i180_125, i180_126, i180_128, i180_129, i180_130, i180_132, i180_134, i180_135, i180_137, i180_138, i180_140, i180_141, i180_142, i180_145, i180_148, i180_151, i180_154, i180_155, i180_e, c_in, c_isAhead, c_isSheet, c_areRight, bi_eq0, decide_true, decide_false, and_self, if_true, if_false, reduceCtorEq, not_true_eq_false, not_false_eq_true, mx_k0, mx_t0, fa_wide_le, Option.toList_some, Option.toList_none, List.nil_append, List.cons_append, true_and, and_true, eq_self, true_or, or_true, bi_01, mx_nl_i, mx_nl_r, mx_nl_n, mx_nl_f, mx_nl_d, lj0a, lj0b, lj1a, lj1b, lj2a, lj2b, lj3a, lj3b, lj4a, lj4b, lj5a, lj5b, lj6a, lj6b, lj7a, lj7b, lj8a, lj8b, lj9a, lj9b, lj10a, lj10b, lj11a, lj11b, lj12a, lj12b, lj13a, lj13b, lj14a, lj14b, lj15a, lj15b, lj16a, lj16b, lj17a, lj17b, lj18a, lj18b, lj19a, lj19b, ob_co r.o, c_f1 r, c_f2 r, c_f3 r, c_f4 r, c_f5 r, mo_gk r.o, mo_gv r.o, c_isSeller r.o r.g0, c_isSort r.o r.g0, ar_ik r.g0, ar_ia r.g0, ar_is r.g0, c0]
    exact k.er r ok
  rw [if_pos c0] at k
  simp only [i180_0, i180_1, i180_4, i180_7, i180_8, i180_9, i180_12, i180_13, i180_14, i180_15, i180_18, i180_19, i180_20, i180_21, i180_23, i180_24, i180_27, i180_28, i180_29, i180_32, i180_33, i180_36, i180_37, i180_38, i180_41, i180_43, i180_44, i180_48, i180_49, i180_52, i180_53, i180_54, i180_57, i180_58, i180_61, i180_63, i180_64, i180_67, i180_69, i180_70, i180_73, i180_75, i180_76, i180_79, i180_80, i180_83, i180_84, i180_87, i180_90, i180_91, i180_94, i180_96, i180_98, i180_101, i180_103, i180_106, i180_108, i180_110, i180_111, i180_114, i180_116, i180_118, i180_120, i180_121, i180_122, i180_123, i180_124, i180_125, i180_126, i180_128, i180_129, i180_130, i180_132, i180_134, i180_135, i180_137, i180_138, i180_140, i180_141, i180_142, i180_145, i180_148, i180_151, i180_154, i180_155, i180_e, c_in, c_isAhead, c_isSheet, c_areRight, bi_eq0, decide_true, decide_false, and_self, if_true, if_false, reduceCtorEq, not_true_eq_false, not_false_eq_true, mx_k0, mx_t0, fa_wide_le, Option.toList_some, Option.toList_none, List.nil_append, List.cons_append, true_and, and_true, eq_self, true_or, or_true, bi_01, mx_nl_i, mx_nl_r, mx_nl_n, mx_nl_f, mx_nl_d, lj0a, lj0b, lj1a, lj1b, lj2a, lj2b, lj3a, lj3b, lj4a, lj4b, lj5a, lj5b, lj6a, lj6b, lj7a, lj7b, lj8a, lj8b, lj9a, lj9b, lj10a, lj10b, lj11a, lj11b, lj12a, lj12b, lj13a, lj13b, lj14a, lj14b, lj15a, lj15b, lj16a, lj16b, lj17a, lj17b, lj18a, lj18b, lj19a, lj19b, ob_co r.o, c_f1 r, c_f2 r, c_f3 r, c_f4 r, c_f5 r, mo_gk r.o, mo_gv r.o, c_isSeller r.o r.g0, c_isSort r.o r.g0, ar_ik r.g0, ar_ia r.g0, ar_is r.g0, c0]
  obtain ⟨N, hN, rfl⟩ := nI_rng (k := 60) (by decide) c0
  rw [nI_clamp (show N < 2 ^ 31 by omega)] at k
  have md := fw_md (v := v) ok (MD.ab ok.1.1) N
  refine c_ahead r ok (by omega) (fun h1 A1 r1 fr s2 ea => ?_)
  simp only [i180_0, i180_1, i180_4, i180_7, i180_8, i180_9, i180_12, i180_13, i180_14, i180_15, i180_18, i180_19, i180_20, i180_21, i180_23, i180_24, i180_27, i180_28, i180_29, i180_32, i180_33, i180_36, i180_37, i180_38, i180_41, i180_43, i180_44, i180_48, i180_49, i180_52, i180_53, i180_54, i180_57, i180_58, i180_61, i180_63, i180_64, i180_67, i180_69, i180_70, i180_73, i180_75, i180_76, i180_79, i180_80, i180_83, i180_84, i180_87, i180_90, i180_91, i180_94, i180_96, i180_98, i180_101, i180_103, i180_106, i180_108, i180_110, i180_111, i180_114, i180_116, i180_118, i180_120, i180_121, i180_122, i180_123, i180_124, i180_125, i180_126, i180_128, i180_129, i180_130, i180_132, i180_134, i180_135, i180_137, i180_138, i180_140, i180_141, i180_142, i180_145, i180_148, i180_151, i180_154, i180_155, i180_e, c_in, c_isAhead, c_isSheet, c_areRight, bi_eq0, decide_true, decide_false, and_self, if_true, if_false, reduceCtorEq, not_true_eq_false, not_false_eq_true, mx_k0, mx_t0, fa_wide_le, Option.toList_some, Option.toList_none, List.nil_append, List.cons_append, true_and, and_true, eq_self, true_or, or_true, bi_01, mx_nl_i, mx_nl_r, mx_nl_n, mx_nl_f, mx_nl_d, lj0a, lj0b, lj1a, lj1b, lj2a, lj2b, lj3a, lj3b, lj4a, lj4b, lj5a, lj5b, lj6a, lj6b, lj7a, lj7b, lj8a, lj8b, lj9a, lj9b, lj10a, lj10b, lj11a, lj11b, lj12a, lj12b, lj13a, lj13b, lj14a, lj14b, lj15a, lj15b, lj16a, lj16b, lj17a, lj17b, lj18a, lj18b, lj19a, lj19b]
  have e0 := mx_setid r1.g1
  rw [ea] at e0
  have key := c_lost_2 (X := X) (d := d) (Q := Q) r1 (w1 := .int (nI N)) rfl md ?_ (nbA A) 0 (.double 0) (.double 0) (.double 0) (.double 0) (by omega) rfl rfl
  · rw [show (l2_ (nsA A) (fw_ A (A 0) N) 0).1 = fw_ A (A 0) N from rfl, e0] at key
    exact key
  · refine k.s2 r1.s1 (fr.tr (FR.set (by decide) (by decide))) (s2.tr S2.up) ?_
    rw [up2_s]
    intro j hj
    rw [l2_at md.1 (by omega)]
    exact fw_z ok ok.1.2.2.2.1 N j hj
/-- right -/
theorem MD.up {m : Nat → Int32} {ns nb i : Nat} {x : Int32} (h : MD m ns nb) (hi : 4 ≤ i) : MD (upd m i x) ns nb := ⟨h.1, h.2.1, by rw [pk_un (by omega)]; exact h.2.2.1, by rw [pk_un (by omega)]; exact h.2.2.2.1, by rw [pk_un (by omega)]; exact h.2.2.2.2⟩
theorem OK.zz {A1 : Nat → Nat → Int32} (ok : OK v A) (s2 : S2 1 A A1) (z : Z_ (A1 1)) : OK v A1 := by
  obtain ⟨a, b, c, d, e, f⟩ := ok
  refine ⟨?_, z, ?_, ?_, e, ?_⟩
  · rw [s2 0 (by decide) (by decide) (by decide) (by decide)]; exact a
  · rw [s2 2 (by decide) (by decide) (by decide) (by decide)]; exact c
  · rw [s2 2 (by decide) (by decide) (by decide) (by decide)]; exact d
  · rw [s2 10 (by decide) (by decide) (by decide) (by decide), s2 11 (by decide) (by decide) (by decide) (by decide)]; exact f
def sp_right (v : Nat → Int32) (A : Nat → Nat → Int32) (a n : Int32) : PR := if (0 ≤ a ∧ a ≤ A 0 1 - 1) ∧ (0 ≤ n ∧ n ≤ 60) then (fw_ A (upd (A 0) (20 + 8 * a.toNatClampNeg + 6) (-1)) n.toNatClampNeg (20 + 8 * a.toNatClampNeg + 5) - fw_ A (A 0) n.toNatClampNeg (20 + 8 * a.toNatClampNeg + 5), v, A) else er_ v A 1
theorem r_right (r : RW h v A) (ok : OK v A) {a n : Int32} (k : KR h (sp_right v A a n) Q) : ev_ X (d + 9) 182 [.ref 96, .int a, .int n] h Q := by
  obtain ⟨ns, nb, hns, hnb, e1, e2, -⟩ := ok.1.1
  unfold sp_right at k
  by_cases hc : (0 ≤ a ∧ a ≤ A 0 1 - 1) ∧ (0 ≤ n ∧ n ≤ 60)
  case neg =>
    rw [if_neg hc] at k
    have hf := k.er r ok
    by_cases c0 : (0 ≤ a ∧ a ≤ A 0 1 - 1) <;> by_cases c1 : (0 ≤ n ∧ n ≤ 60)
    · exact False.elim (hc ⟨c0, c1⟩)
    all_goals simp only [i182_0, i182_1, i182_2, i182_5, i182_8, i182_9, i182_12, i182_15, i182_16, i182_17, i182_20, i182_21, i182_22, i182_23, i182_26, i182_27, i182_30, i182_31, i182_32, i182_35, i182_36, i182_37, i182_40, i182_41, i182_44, i182_47, i182_48, i182_51, i182_53, i182_55, i182_56, i182_57, i182_58, i182_60, i182_61, i182_62, i182_63, i182_64, i182_65, i182_68, i182_69, i182_72, i182_73, i182_76, i182_77, i182_78, i182_81, i182_82, i182_83, i182_e, c_in, c_isAhead, c_isSheet, c_areRight, bi_eq0, decide_true, decide_false, and_self, if_true, if_false, reduceCtorEq, not_true_eq_false, not_false_eq_true, mx_k0, mx_t0, fa_wide_le, Option.toList_some, Option.toList_none, List.nil_append, List.cons_append, true_and, and_true, eq_self, true_or, or_true, bi_01, mx_nl_i, mx_nl_r, mx_nl_n, mx_nl_f, mx_nl_d, lj0a, lj0b, lj1a, lj1b, lj2a, lj2b, lj3a, lj3b, lj4a, lj4b, lj5a, lj5b, lj6a, lj6b, lj7a, lj7b, lj8a, lj8b, lj9a, lj9b, lj10a, lj10b, lj11a, lj11b, lj12a, lj12b, lj13a, lj13b, lj14a, lj14b, lj15a, lj15b, lj16a, lj16b, lj17a, lj17b, lj18a, lj18b, lj19a, lj19b, ob_co r.o, c_f1 r, c_f2 r, c_f3 r, c_f4 r, c_f5 r, mo_gk r.o, mo_gv r.o, c_isSeller r.o r.g0, c_isSort r.o r.g0, ar_ik r.g0, ar_ia r.g0, ar_is r.g0, c0, c1]
    all_goals exact hf
  rw [if_pos hc] at k
  obtain ⟨c0, c1⟩ := hc
  simp only [i182_0, i182_1, i182_2, i182_5, i182_8, i182_9, i182_12, i182_15, i182_16, i182_17, i182_20, i182_21, i182_22, i182_23, i182_26, i182_27, i182_30, i182_31, i182_32, i182_35, i182_36, i182_37, i182_40, i182_41, i182_44, i182_47, i182_48, i182_51, i182_53, i182_55, i182_56, i182_57, i182_58, i182_60, i182_61, i182_62, i182_63, i182_64, i182_65, i182_68, i182_69, i182_72, i182_73, i182_76, i182_77, i182_78, i182_81, i182_82, i182_83, i182_e, c_in, c_isAhead, c_isSheet, c_areRight, bi_eq0, decide_true, decide_false, and_self, if_true, if_false, reduceCtorEq, not_true_eq_false, not_false_eq_true, mx_k0, mx_t0, fa_wide_le, Option.toList_some, Option.toList_none, List.nil_append, List.cons_append, true_and, and_true, eq_self, true_or, or_true, bi_01, mx_nl_i, mx_nl_r, mx_nl_n, mx_nl_f, mx_nl_d, lj0a, lj0b, lj1a, lj1b, lj2a, lj2b, lj3a, lj3b, lj4a, lj4b, lj5a, lj5b, lj6a, lj6b, lj7a, lj7b, lj8a, lj8b, lj9a, lj9b, lj10a, lj10b, lj11a, lj11b, lj12a, lj12b, lj13a, lj13b, lj14a, lj14b, lj15a, lj15b, lj16a, lj16b, lj17a, lj17b, lj18a, lj18b, lj19a, lj19b, ob_co r.o, c_f1 r, c_f2 r, c_f3 r, c_f4 r, c_f5 r, mo_gk r.o, mo_gv r.o, c_isSeller r.o r.g0, c_isSort r.o r.g0, ar_ik r.g0, ar_ia r.g0, ar_is r.g0, c0, c1]
  have c0' := c0
  rw [e1] at c0'
  obtain ⟨s, hs, rfl⟩ := nI_sel (by omega) c0'
  obtain ⟨N, hN, rfl⟩ := nI_rng (k := 60) (by decide) c1
  rw [nI_clamp (show N < 2 ^ 31 by omega), nI_clamp (show s < 2 ^ 31 by omega)] at k
  have x0 : (20 + 8 * nI s + 6 : Int32) = nI (20 + 8 * s + 6) := mx_ix 20 8 s 6
  have i0 : mx_in (nI (20 + 8 * s + 6)) 280 = true := mx_inN (by omega) (by decide)
  have t0 : (nI (20 + 8 * s + 6)).toNatClampNeg = 20 + 8 * s + 6 := nI_clamp (by omega)
  refine c_ahead r ok (by omega) (fun h1 A1 r1 fr s2 ea => ?_)
  have z1 : Z_ (A1 1) := by rw [ea]; exact fw_z ok ok.1.2.2.2.1 N
  have ea0 : A1 0 = A 0 := s2 0 (by decide) (by decide) (by decide) (by decide)
  have r2 := r1.s1 (f := A1 0)
  have g2 := r2.g1
  rw [up2_s] at g2
  have r3 := r1.s1 (f := upd (A 0) (20 + 8 * s + 6) (-1))
  have hs6 : s < 6 := by omega
  rw [ea0] at g2 r2
  simp only [i182_0, i182_1, i182_2, i182_5, i182_8, i182_9, i182_12, i182_15, i182_16, i182_17, i182_20, i182_21, i182_22, i182_23, i182_26, i182_27, i182_30, i182_31, i182_32, i182_35, i182_36, i182_37, i182_40, i182_41, i182_44, i182_47, i182_48, i182_51, i182_53, i182_55, i182_56, i182_57, i182_58, i182_60, i182_61, i182_62, i182_63, i182_64, i182_65, i182_68, i182_69, i182_72, i182_73, i182_76, i182_77, i182_78, i182_81, i182_82, i182_83, i182_e, c_in, c_isAhead, c_isSheet, c_areRight, bi_eq0, decide_true, decide_false, and_self, if_true, if_false, reduceCtorEq, not_true_eq_false, not_false_eq_true, mx_k0, mx_t0, fa_wide_le, Option.toList_some, Option.toList_none, List.nil_append, List.cons_append, true_and, and_true, eq_self, true_or, or_true, bi_01, mx_nl_i, mx_nl_r, mx_nl_n, mx_nl_f, mx_nl_d, lj0a, lj0b, lj1a, lj1b, lj2a, lj2b, lj3a, lj3b, lj4a, lj4b, lj5a, lj5b, lj6a, lj6b, lj7a, lj7b, lj8a, lj8b, lj9a, lj9b, lj10a, lj10b, lj11a, lj11b, lj12a, lj12b, lj13a, lj13b, lj14a, lj14b, lj15a, lj15b, lj16a, lj16b, lj17a, lj17b, lj18a, lj18b, lj19a, lj19b, mo_gk r1.o, mo_gv r1.o, c_se5 r1.g1 hs6, ea, c_cpE r1 (ok.zz s2 z1) z1, ea0, mo_gk r2.o, mo_gv r2.o, x0, i0, t0, ar_ik g2, ar_is g2, List.set_set, mo_gk r3.o, mo_gv r3.o, ob_co r3.o]
  refine c_gonE r ok r3 (fr.tr (FR.set (by decide) (by decide))) (s2.tr S2.up) (up2_s 1) ((MD.ab ok.1.1).up (by omega)) (by omega) (fun h' A' r' fr' s2' ea' => ?_)
  simp only [i182_0, i182_1, i182_2, i182_5, i182_8, i182_9, i182_12, i182_15, i182_16, i182_17, i182_20, i182_21, i182_22, i182_23, i182_26, i182_27, i182_30, i182_31, i182_32, i182_35, i182_36, i182_37, i182_40, i182_41, i182_44, i182_47, i182_48, i182_51, i182_53, i182_55, i182_56, i182_57, i182_58, i182_60, i182_61, i182_62, i182_63, i182_64, i182_65, i182_68, i182_69, i182_72, i182_73, i182_76, i182_77, i182_78, i182_81, i182_82, i182_83, i182_e, c_in, c_isAhead, c_isSheet, c_areRight, bi_eq0, decide_true, decide_false, and_self, if_true, if_false, reduceCtorEq, not_true_eq_false, not_false_eq_true, mx_k0, mx_t0, fa_wide_le, Option.toList_some, Option.toList_none, List.nil_append, List.cons_append, true_and, and_true, eq_self, true_or, or_true, bi_01, mx_nl_i, mx_nl_r, mx_nl_n, mx_nl_f, mx_nl_d, lj0a, lj0b, lj1a, lj1b, lj2a, lj2b, lj3a, lj3b, lj4a, lj4b, lj5a, lj5b, lj6a, lj6b, lj7a, lj7b, lj8a, lj8b, lj9a, lj9b, lj10a, lj10b, lj11a, lj11b, lj12a, lj12b, lj13a, lj13b, lj14a, lj14b, lj15a, lj15b, lj16a, lj16b, lj17a, lj17b, lj18a, lj18b, lj19a, lj19b, mo_gk r'.o, mo_gv r'.o, c_se5 r'.g1 hs6, ea']
  exact k.s2 r' fr' s2' (by rw [ea']; exact fw_z ok (ok.1.2.2.2.1.up (by omega)) N)
/-- tenth -/
def sp_tenth (v : Nat → Int32) (A : Nat → Nat → Int32) (n u : Int32) : PR := if (0 ≤ n ∧ n ≤ 60) ∧ (0 ≤ u ∧ u ≤ 999) then (sm_ (fw_ A (upd (A 0) 7 u) n.toNatClampNeg) 20 8 5 (nsA A) - sm_ (fw_ A (A 0) n.toNatClampNeg) 20 8 5 (nsA A), v, A) else er_ v A 1
theorem r_tenth (r : RW h v A) (ok : OK v A) {n u : Int32} (k : KR h (sp_tenth v A n u) Q) : ev_ X (d + 9) 183 [.ref 96, .int n, .int u] h Q := by
  unfold sp_tenth at k
  by_cases hc : (0 ≤ n ∧ n ≤ 60) ∧ (0 ≤ u ∧ u ≤ 999)
  case neg =>
    rw [if_neg hc] at k
    have hf := k.er r ok
    by_cases c0 : (0 ≤ n ∧ n ≤ 60) <;> by_cases c1 : (0 ≤ u ∧ u ≤ 999)
    · exact False.elim (hc ⟨c0, c1⟩)
    all_goals simp only [i183_0, i183_1, i183_4, i183_7, i183_8, i183_9, i183_10, i183_13, i183_16, i183_19, i183_20, i183_21, i183_24, i183_25, i183_26, i183_27, i183_30, i183_31, i183_34, i183_37, i183_38, i183_39, i183_42, i183_43, i183_46, i183_49, i183_50, i183_53, i183_55, i183_56, i183_57, i183_58, i183_59, i183_62, i183_63, i183_66, i183_67, i183_70, i183_73, i183_74, i183_75, i183_e, c_in, c_isAhead, c_isSheet, c_areRight, bi_eq0, decide_true, decide_false, and_self, if_true, if_false, reduceCtorEq, not_true_eq_false, not_false_eq_true, mx_k0, mx_t0, fa_wide_le, Option.toList_some, Option.toList_none, List.nil_append, List.cons_append, true_and, and_true, eq_self, true_or, or_true, bi_01, mx_nl_i, mx_nl_r, mx_nl_n, mx_nl_f, mx_nl_d, lj0a, lj0b, lj1a, lj1b, lj2a, lj2b, lj3a, lj3b, lj4a, lj4b, lj5a, lj5b, lj6a, lj6b, lj7a, lj7b, lj8a, lj8b, lj9a, lj9b, lj10a, lj10b, lj11a, lj11b, lj12a, lj12b, lj13a, lj13b, lj14a, lj14b, lj15a, lj15b, lj16a, lj16b, lj17a, lj17b, lj18a, lj18b, lj19a, lj19b, ob_co r.o, c_f1 r, c_f2 r, c_f3 r, c_f4 r, c_f5 r, mo_gk r.o, mo_gv r.o, c_isSeller r.o r.g0, c_isSort r.o r.g0, ar_ik r.g0, ar_ia r.g0, ar_is r.g0, c0, c1]
    all_goals exact hf
  rw [if_pos hc] at k
  obtain ⟨c0, c1⟩ := hc
  simp only [i183_0, i183_1, i183_4, i183_7, i183_8, i183_9, i183_10, i183_13, i183_16, i183_19, i183_20, i183_21, i183_24, i183_25, i183_26, i183_27, i183_30, i183_31, i183_34, i183_37, i183_38, i183_39, i183_42, i183_43, i183_46, i183_49, i183_50, i183_53, i183_55, i183_56, i183_57, i183_58, i183_59, i183_62, i183_63, i183_66, i183_67, i183_70, i183_73, i183_74, i183_75, i183_e, c_in, c_isAhead, c_isSheet, c_areRight, bi_eq0, decide_true, decide_false, and_self, if_true, if_false, reduceCtorEq, not_true_eq_false, not_false_eq_true, mx_k0, mx_t0, fa_wide_le, Option.toList_some, Option.toList_none, List.nil_append, List.cons_append, true_and, and_true, eq_self, true_or, or_true, bi_01, mx_nl_i, mx_nl_r, mx_nl_n, mx_nl_f, mx_nl_d, lj0a, lj0b, lj1a, lj1b, lj2a, lj2b, lj3a, lj3b, lj4a, lj4b, lj5a, lj5b, lj6a, lj6b, lj7a, lj7b, lj8a, lj8b, lj9a, lj9b, lj10a, lj10b, lj11a, lj11b, lj12a, lj12b, lj13a, lj13b, lj14a, lj14b, lj15a, lj15b, lj16a, lj16b, lj17a, lj17b, lj18a, lj18b, lj19a, lj19b, ob_co r.o, c_f1 r, c_f2 r, c_f3 r, c_f4 r, c_f5 r, mo_gk r.o, mo_gv r.o, c_isSeller r.o r.g0, c_isSort r.o r.g0, ar_ik r.g0, ar_ia r.g0, ar_is r.g0, c0, c1]
  obtain ⟨N, hN, rfl⟩ := nI_rng (k := 60) (by decide) c0
  rw [nI_clamp (show N < 2 ^ 31 by omega)] at k
  refine c_ahead r ok (by omega) (fun h1 A1 r1 fr s2 ea => ?_)
  have z1 : Z_ (A1 1) := by rw [ea]; exact fw_z ok ok.1.2.2.2.1 N
  have ea0 : A1 0 = A 0 := s2 0 (by decide) (by decide) (by decide) (by decide)
  have md := fw_md (v := v) ok (MD.ab ok.1.1) N
  have g1 := r1.g1
  rw [ea] at g1
  have r2 := r1.s1 (f := A1 0)
  have g2 := r2.g1
  rw [up2_s] at g2
  have r3 := r1.s1 (f := upd (A 0) 7 u)
  rw [ea0] at g2 r2
  simp only [i183_0, i183_1, i183_4, i183_7, i183_8, i183_9, i183_10, i183_13, i183_16, i183_19, i183_20, i183_21, i183_24, i183_25, i183_26, i183_27, i183_30, i183_31, i183_34, i183_37, i183_38, i183_39, i183_42, i183_43, i183_46, i183_49, i183_50, i183_53, i183_55, i183_56, i183_57, i183_58, i183_59, i183_62, i183_63, i183_66, i183_67, i183_70, i183_73, i183_74, i183_75, i183_e, c_in, c_isAhead, c_isSheet, c_areRight, bi_eq0, decide_true, decide_false, and_self, if_true, if_false, reduceCtorEq, not_true_eq_false, not_false_eq_true, mx_k0, mx_t0, fa_wide_le, Option.toList_some, Option.toList_none, List.nil_append, List.cons_append, true_and, and_true, eq_self, true_or, or_true, bi_01, mx_nl_i, mx_nl_r, mx_nl_n, mx_nl_f, mx_nl_d, lj0a, lj0b, lj1a, lj1b, lj2a, lj2b, lj3a, lj3b, lj4a, lj4b, lj5a, lj5b, lj6a, lj6b, lj7a, lj7b, lj8a, lj8b, lj9a, lj9b, lj10a, lj10b, lj11a, lj11b, lj12a, lj12b, lj13a, lj13b, lj14a, lj14b, lj15a, lj15b, lj16a, lj16b, lj17a, lj17b, lj18a, lj18b, lj19a, lj19b, mo_gk r1.o, mo_gv r1.o, c_eIn g1 md.1 md.2.2.1, c_cpE r1 (ok.zz s2 z1) z1, ea0, mo_gk r2.o, mo_gv r2.o, ar_ik g2, ar_is g2, List.set_set, mo_gk r3.o, mo_gv r3.o, ob_co r3.o]
  refine c_gonE r ok r3 (fr.tr (FR.set (by decide) (by decide))) (s2.tr S2.up) (up2_s 1) ((MD.ab ok.1.1).up (by omega)) (by omega) (fun h' A' r' fr' s2' ea' => ?_)
  have md' := fw_md (v := v) ok ((MD.ab ok.1.1).up (i := 7) (x := u) (by omega)) N
  have g' := r'.g1
  rw [ea'] at g'
  simp only [i183_0, i183_1, i183_4, i183_7, i183_8, i183_9, i183_10, i183_13, i183_16, i183_19, i183_20, i183_21, i183_24, i183_25, i183_26, i183_27, i183_30, i183_31, i183_34, i183_37, i183_38, i183_39, i183_42, i183_43, i183_46, i183_49, i183_50, i183_53, i183_55, i183_56, i183_57, i183_58, i183_59, i183_62, i183_63, i183_66, i183_67, i183_70, i183_73, i183_74, i183_75, i183_e, c_in, c_isAhead, c_isSheet, c_areRight, bi_eq0, decide_true, decide_false, and_self, if_true, if_false, reduceCtorEq, not_true_eq_false, not_false_eq_true, mx_k0, mx_t0, fa_wide_le, Option.toList_some, Option.toList_none, List.nil_append, List.cons_append, true_and, and_true, eq_self, true_or, or_true, bi_01, mx_nl_i, mx_nl_r, mx_nl_n, mx_nl_f, mx_nl_d, lj0a, lj0b, lj1a, lj1b, lj2a, lj2b, lj3a, lj3b, lj4a, lj4b, lj5a, lj5b, lj6a, lj6b, lj7a, lj7b, lj8a, lj8b, lj9a, lj9b, lj10a, lj10b, lj11a, lj11b, lj12a, lj12b, lj13a, lj13b, lj14a, lj14b, lj15a, lj15b, lj16a, lj16b, lj17a, lj17b, lj18a, lj18b, lj19a, lj19b, mo_gk r'.o, mo_gv r'.o, c_eIn g' md'.1 md'.2.2.1]
  exact k.s2 r' fr' s2' (by rw [ea']; exact fw_z ok (ok.1.2.2.2.1.up (by omega)) N)
/-- the best of a row -/
def bst (val : Nat → Int32) : Nat → Nat × Int32
  | 0 => (0, -100000000)
  | j + 1 => if val j ≤ (bst val j).2 then bst val j else (j, val j)
def bgv (A : Nat → Nat → Int32) (s n : Nat) (j : Nat) : Int32 := fw_ A (upd (A 0) (20 + 8 * s + 6) (nI (10 * j))) n (20 + 8 * s + 5)
def sp_begin (v : Nat → Int32) (A : Nat → Nat → Int32) (a n : Int32) : PR := if (0 ≤ a ∧ a ≤ A 0 1 - 1) ∧ (1 ≤ n ∧ n ≤ 9) then (nI (10 * (bst (bgv A a.toNatClampNeg n.toNatClampNeg) 100).1), v, A) else er_ v A 1
set_option maxHeartbeats 1000000 in
theorem c_begin_l (r0 : RW h v A) (ok : OK v A) {s N : Nat} (hs : s < 6) (hN : N ≤ 9) (k : KR h (nI (10 * (bst (bgv A s N) 100).1), v, A) Q) : ∀ (n j : Nat) (h1 : MXH) (A1 : Nat → Nat → Int32) (w6 : Value), j + n = 100 → RW h1 v A1 → FR h h1 → S2 1 A A1 → Z_ (A1 1) → ex_ X (d + 9) 181 35 [.ref 96, .int (nI s), .int (nI N), .int (nI (10 * (bst (bgv A s N) j).1)), .int (bst (bgv A s N) j).2, .int (nI (10 * j)), w6] [] h1 Q := by
  intro n
  induction n with
  | zero =>
    intro j h1 A1 w6 hj r1 fr s2 z1
    have e : j = 100 := by omega
    subst e
    rw [i181_35]
    simp only [i181_0, i181_1, i181_2, i181_5, i181_8, i181_9, i181_10, i181_11, i181_14, i181_17, i181_20, i181_21, i181_22, i181_25, i181_26, i181_27, i181_28, i181_30, i181_32, i181_33, i181_37, i181_40, i181_43, i181_44, i181_47, i181_48, i181_51, i181_54, i181_55, i181_58, i181_60, i181_62, i181_63, i181_64, i181_65, i181_67, i181_68, i181_70, i181_71, i181_72, i181_73, i181_76, i181_77, i181_80, i181_81, i181_84, i181_85, i181_86, i181_89, i181_91, i181_93, i181_95, i181_98, i181_100, i181_103, i181_104, i181_105, i181_107, i181_109, i181_112, i181_114, i181_117, i181_119, i181_121, i181_124, i181_127, i181_128, i181_e, c_in, c_isAhead, c_isSheet, c_areRight, bi_eq0, decide_true, decide_false, and_self, if_true, if_false, reduceCtorEq, not_true_eq_false, not_false_eq_true, mx_k0, mx_t0, fa_wide_le, Option.toList_some, Option.toList_none, List.nil_append, List.cons_append, true_and, and_true, eq_self, true_or, or_true, bi_01, mx_nl_i, mx_nl_r, mx_nl_n, mx_nl_f, mx_nl_d, lj0a, lj0b, lj1a, lj1b, lj2a, lj2b, lj3a, lj3b, lj4a, lj4b, lj5a, lj5b, lj6a, lj6b, lj7a, lj7b, lj8a, lj8b, lj9a, lj9b, lj10a, lj10b, lj11a, lj11b, lj12a, lj12b, lj13a, lj13b, lj14a, lj14b, lj15a, lj15b, lj16a, lj16b, lj17a, lj17b, lj18a, lj18b, lj19a, lj19b, show ((1000 : Int32) ≤ nI (10 * 100)) from by decide]
    exact k.s2 r1 fr s2 z1
  | succ n ih =>
    intro j h1 A1 w6 hj r1 fr s2 z1
    have hc : ¬ ((1000 : Int32) ≤ nI (10 * j)) := by
      show ¬ (nI 1000 ≤ nI (10 * j))
      rw [nI_leI (by decide) (by omega)]; omega
    have ih := fun h1 A1 w6 r1 fr s2 z1 => ih (j + 1) h1 A1 w6 (by omega) r1 fr s2 z1
    simp only [bst] at ih
    have ea0 : A1 0 = A 0 := s2 0 (by decide) (by decide) (by decide) (by decide)
    have x0 : (20 + 8 * nI s + 6 : Int32) = nI (20 + 8 * s + 6) := mx_ix 20 8 s 6
    have i0 : mx_in (nI (20 + 8 * s + 6)) 280 = true := mx_inN (by omega) (by decide)
    have t0 : (nI (20 + 8 * s + 6)).toNatClampNeg = 20 + 8 * s + 6 := nI_clamp (by omega)
    have x1 : (nI (10 * j) + 10 : Int32) = nI (10 * (j + 1)) := nI_add _ 10
    have r2 := r1.s1 (f := A 0)
    have g2 := r2.g1
    rw [up2_s] at g2
    have r3 := r1.s1 (f := upd (A 0) (20 + 8 * s + 6) (nI (10 * j)))
    rw [i181_35]
    simp only [i181_0, i181_1, i181_2, i181_5, i181_8, i181_9, i181_10, i181_11, i181_14, i181_17, i181_20, i181_21, i181_22, i181_25, i181_26, i181_27, i181_28, i181_30, i181_32, i181_33, i181_37, i181_40, i181_43, i181_44, i181_47, i181_48, i181_51, i181_54, i181_55, i181_58, i181_60, i181_62, i181_63, i181_64, i181_65, i181_67, i181_68, i181_70, i181_71, i181_72, i181_73, i181_76, i181_77, i181_80, i181_81, i181_84, i181_85, i181_86, i181_89, i181_91, i181_93, i181_95, i181_98, i181_100, i181_103, i181_104, i181_105, i181_107, i181_109, i181_112, i181_114, i181_117, i181_119, i181_121, i181_124, i181_127, i181_128, i181_e, c_in, c_isAhead, c_isSheet, c_areRight, bi_eq0, decide_true, decide_false, and_self, if_true, if_false, reduceCtorEq, not_true_eq_false, not_false_eq_true, mx_k0, mx_t0, fa_wide_le, Option.toList_some, Option.toList_none, List.nil_append, List.cons_append, true_and, and_true, eq_self, true_or, or_true, bi_01, mx_nl_i, mx_nl_r, mx_nl_n, mx_nl_f, mx_nl_d, lj0a, lj0b, lj1a, lj1b, lj2a, lj2b, lj3a, lj3b, lj4a, lj4b, lj5a, lj5b, lj6a, lj6b, lj7a, lj7b, lj8a, lj8b, lj9a, lj9b, lj10a, lj10b, lj11a, lj11b, lj12a, lj12b, lj13a, lj13b, lj14a, lj14b, lj15a, lj15b, lj16a, lj16b, lj17a, lj17b, lj18a, lj18b, lj19a, lj19b, hc, mo_gk r1.o, mo_gv r1.o, c_cpE r1 (ok.zz s2 z1) z1, ea0, mo_gk r2.o, mo_gv r2.o, x0, i0, t0, ar_ik g2, ar_is g2, List.set_set, mo_gk r3.o, mo_gv r3.o, ob_co r3.o]
    refine c_gonE r0 ok r3 (fr.tr (FR.set (by decide) (by decide))) (s2.tr S2.up) (up2_s 1) ((MD.ab ok.1.1).up (by omega)) (by omega) (fun h' A' r' fr' s2' ea' => ?_)
    have z' : Z_ (A' 1) := by rw [ea']; exact fw_z ok (ok.1.2.2.2.1.up (by omega)) N
    have ev : fw_ A (upd (A 0) (20 + 8 * s + 6) (nI (10 * j))) N (20 + 8 * s + 5) = bgv A s N j := rfl
    by_cases c2 : bgv A s N j ≤ (bst (bgv A s N) j).2
    · simp only [c2, if_true] at ih
      simp only [i181_0, i181_1, i181_2, i181_5, i181_8, i181_9, i181_10, i181_11, i181_14, i181_17, i181_20, i181_21, i181_22, i181_25, i181_26, i181_27, i181_28, i181_30, i181_32, i181_33, i181_37, i181_40, i181_43, i181_44, i181_47, i181_48, i181_51, i181_54, i181_55, i181_58, i181_60, i181_62, i181_63, i181_64, i181_65, i181_67, i181_68, i181_70, i181_71, i181_72, i181_73, i181_76, i181_77, i181_80, i181_81, i181_84, i181_85, i181_86, i181_89, i181_91, i181_93, i181_95, i181_98, i181_100, i181_103, i181_104, i181_105, i181_107, i181_109, i181_112, i181_114, i181_117, i181_119, i181_121, i181_124, i181_127, i181_128, i181_e, c_in, c_isAhead, c_isSheet, c_areRight, bi_eq0, decide_true, decide_false, and_self, if_true, if_false, reduceCtorEq, not_true_eq_false, not_false_eq_true, mx_k0, mx_t0, fa_wide_le, Option.toList_some, Option.toList_none, List.nil_append, List.cons_append, true_and, and_true, eq_self, true_or, or_true, bi_01, mx_nl_i, mx_nl_r, mx_nl_n, mx_nl_f, mx_nl_d, lj0a, lj0b, lj1a, lj1b, lj2a, lj2b, lj3a, lj3b, lj4a, lj4b, lj5a, lj5b, lj6a, lj6b, lj7a, lj7b, lj8a, lj8b, lj9a, lj9b, lj10a, lj10b, lj11a, lj11b, lj12a, lj12b, lj13a, lj13b, lj14a, lj14b, lj15a, lj15b, lj16a, lj16b, lj17a, lj17b, lj18a, lj18b, lj19a, lj19b, mo_gk r'.o, mo_gv r'.o, c_se5 r'.g1 hs, ea', ev, c2, x1]
      exact ih _ _ _ r' fr' s2' z'
    · simp only [c2, if_false] at ih
      simp only [i181_0, i181_1, i181_2, i181_5, i181_8, i181_9, i181_10, i181_11, i181_14, i181_17, i181_20, i181_21, i181_22, i181_25, i181_26, i181_27, i181_28, i181_30, i181_32, i181_33, i181_37, i181_40, i181_43, i181_44, i181_47, i181_48, i181_51, i181_54, i181_55, i181_58, i181_60, i181_62, i181_63, i181_64, i181_65, i181_67, i181_68, i181_70, i181_71, i181_72, i181_73, i181_76, i181_77, i181_80, i181_81, i181_84, i181_85, i181_86, i181_89, i181_91, i181_93, i181_95, i181_98, i181_100, i181_103, i181_104, i181_105, i181_107, i181_109, i181_112, i181_114, i181_117, i181_119, i181_121, i181_124, i181_127, i181_128, i181_e, c_in, c_isAhead, c_isSheet, c_areRight, bi_eq0, decide_true, decide_false, and_self, if_true, if_false, reduceCtorEq, not_true_eq_false, not_false_eq_true, mx_k0, mx_t0, fa_wide_le, Option.toList_some, Option.toList_none, List.nil_append, List.cons_append, true_and, and_true, eq_self, true_or, or_true, bi_01, mx_nl_i, mx_nl_r, mx_nl_n, mx_nl_f, mx_nl_d, lj0a, lj0b, lj1a, lj1b, lj2a, lj2b, lj3a, lj3b, lj4a, lj4b, lj5a, lj5b, lj6a, lj6b, lj7a, lj7b, lj8a, lj8b, lj9a, lj9b, lj10a, lj10b, lj11a, lj11b, lj12a, lj12b, lj13a, lj13b, lj14a, lj14b, lj15a, lj15b, lj16a, lj16b, lj17a, lj17b, lj18a, lj18b, lj19a, lj19b, mo_gk r'.o, mo_gv r'.o, c_se5 r'.g1 hs, ea', ev, c2, x1]
      exact ih _ _ _ r' fr' s2' z'
theorem r_begin (r : RW h v A) (ok : OK v A) {a n : Int32} (k : KR h (sp_begin v A a n) Q) : ev_ X (d + 9) 181 [.ref 96, .int a, .int n] h Q := by
  obtain ⟨ns, nb, hns, hnb, e1, e2, -⟩ := ok.1.1
  unfold sp_begin at k
  by_cases hc : (0 ≤ a ∧ a ≤ A 0 1 - 1) ∧ (1 ≤ n ∧ n ≤ 9)
  case neg =>
    rw [if_neg hc] at k
    have hf := k.er r ok
    by_cases c0 : (0 ≤ a ∧ a ≤ A 0 1 - 1) <;> by_cases c1 : (1 ≤ n ∧ n ≤ 9)
    · exact False.elim (hc ⟨c0, c1⟩)
    all_goals simp only [i181_0, i181_1, i181_2, i181_5, i181_8, i181_9, i181_10, i181_11, i181_14, i181_17, i181_20, i181_21, i181_22, i181_25, i181_26, i181_27, i181_28, i181_30, i181_32, i181_33, i181_37, i181_40, i181_43, i181_44, i181_47, i181_48, i181_51, i181_54, i181_55, i181_58, i181_60, i181_62, i181_63, i181_64, i181_65, i181_67, i181_68, i181_70, i181_71, i181_72, i181_73, i181_76, i181_77, i181_80, i181_81, i181_84, i181_85, i181_86, i181_89, i181_91, i181_93, i181_95, i181_98, i181_100, i181_103, i181_104, i181_105, i181_107, i181_109, i181_112, i181_114, i181_117, i181_119, i181_121, i181_124, i181_127, i181_128, i181_e, c_in, c_isAhead, c_isSheet, c_areRight, bi_eq0, decide_true, decide_false, and_self, if_true, if_false, reduceCtorEq, not_true_eq_false, not_false_eq_true, mx_k0, mx_t0, fa_wide_le, Option.toList_some, Option.toList_none, List.nil_append, List.cons_append, true_and, and_true, eq_self, true_or, or_true, bi_01, mx_nl_i, mx_nl_r, mx_nl_n, mx_nl_f, mx_nl_d, lj0a, lj0b, lj1a, lj1b, lj2a, lj2b, lj3a, lj3b, lj4a, lj4b, lj5a, lj5b, lj6a, lj6b, lj7a, lj7b, lj8a, lj8b, lj9a, lj9b, lj10a, lj10b, lj11a, lj11b, lj12a, lj12b, lj13a, lj13b, lj14a, lj14b, lj15a, lj15b, lj16a, lj16b, lj17a, lj17b, lj18a, lj18b, lj19a, lj19b, ob_co r.o, c_f1 r, c_f2 r, c_f3 r, c_f4 r, c_f5 r, mo_gk r.o, mo_gv r.o, c_isSeller r.o r.g0, c_isSort r.o r.g0, ar_ik r.g0, ar_ia r.g0, ar_is r.g0, c0, c1]
    all_goals exact hf
  rw [if_pos hc] at k
  obtain ⟨c0, c1⟩ := hc
  simp only [i181_0, i181_1, i181_2, i181_5, i181_8, i181_9, i181_10, i181_11, i181_14, i181_17, i181_20, i181_21, i181_22, i181_25, i181_26, i181_27, i181_28, i181_30, i181_32, i181_33, i181_37, i181_40, i181_43, i181_44, i181_47, i181_48, i181_51, i181_54, i181_55, i181_58, i181_60, i181_62, i181_63, i181_64, i181_65, i181_67, i181_68, i181_70, i181_71, i181_72, i181_73, i181_76, i181_77, i181_80, i181_81, i181_84, i181_85, i181_86, i181_89, i181_91, i181_93, i181_95, i181_98, i181_100, i181_103, i181_104, i181_105, i181_107, i181_109, i181_112, i181_114, i181_117, i181_119, i181_121, i181_124, i181_127, i181_128, i181_e, c_in, c_isAhead, c_isSheet, c_areRight, bi_eq0, decide_true, decide_false, and_self, if_true, if_false, reduceCtorEq, not_true_eq_false, not_false_eq_true, mx_k0, mx_t0, fa_wide_le, Option.toList_some, Option.toList_none, List.nil_append, List.cons_append, true_and, and_true, eq_self, true_or, or_true, bi_01, mx_nl_i, mx_nl_r, mx_nl_n, mx_nl_f, mx_nl_d, lj0a, lj0b, lj1a, lj1b, lj2a, lj2b, lj3a, lj3b, lj4a, lj4b, lj5a, lj5b, lj6a, lj6b, lj7a, lj7b, lj8a, lj8b, lj9a, lj9b, lj10a, lj10b, lj11a, lj11b, lj12a, lj12b, lj13a, lj13b, lj14a, lj14b, lj15a, lj15b, lj16a, lj16b, lj17a, lj17b, lj18a, lj18b, lj19a, lj19b, ob_co r.o, c_f1 r, c_f2 r, c_f3 r, c_f4 r, c_f5 r, mo_gk r.o, mo_gv r.o, c_isSeller r.o r.g0, c_isSort r.o r.g0, ar_ik r.g0, ar_ia r.g0, ar_is r.g0, c0, c1]
  have c0' := c0
  rw [e1] at c0'
  obtain ⟨s, hs, rfl⟩ := nI_sel (by omega) c0'
  obtain ⟨N, hN, rfl⟩ := nI_rng (k := 9) (by decide) ⟨Int32.le_trans (by decide) c1.1, c1.2⟩
  rw [nI_clamp (show N < 2 ^ 31 by omega), nI_clamp (show s < 2 ^ 31 by omega)] at k
  exact c_begin_l r ok (by omega) (by omega) k 100 0 h A _ (by omega) r (FR.rf h) (fun _ _ _ _ _ => rfl) ok.2.1
end RE
