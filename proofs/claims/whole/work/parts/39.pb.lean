/-! the reference's calls, the short ones -/
section R9
variable {X : MXX} {d : Nat} {h : MXH} {Q : MXP} {v : Nat → Int32} {A : Nat → Nat → Int32}
theorem c_seg {a s w : Nat} {m : Nat → Int32} (ha : h[a]? = some (.inl (0, 280, .inl m))) (hs : s < 6) (hw : w < 8) : ev_ X d 129 [.ref a, .int (nI s), .int (nI w)] h Q = Q (some (.int (m (20 + 8 * s + w)))) h := by
  have e : (20 + 8 * nI s + nI w : Int32) = nI (20 + 8 * s + w) := mx_ix 20 8 s w
  simp only [i129_0, i129_1, i129_3, i129_5, i129_6, i129_7, i129_8, i129_9, i129_10, i129_11, i129_e, ar_ik ha, ar_ia ha, e, mx_inN (show 20 + 8 * s + w < 280 by omega) (by decide), nI_clamp (show 20 + 8 * s + w < 2 ^ 31 by omega), true_and]
theorem c_sog {a s w : Nat} {m : Nat → Int32} (ha : h[a]? = some (.inl (0, 280, .inl m))) (hs : s < 8) (hw : w < 8) : ev_ X d 130 [.ref a, .int (nI s), .int (nI w)] h Q = Q (some (.int (m (70 + 4 * s + w)))) h := by
  have e : (70 + 4 * nI s + nI w : Int32) = nI (70 + 4 * s + w) := mx_ix 70 4 s w
  simp only [i130_0, i130_1, i130_3, i130_4, i130_5, i130_6, i130_7, i130_8, i130_9, i130_10, i130_e, ar_ik ha, ar_ia ha, e, mx_inN (show 70 + 4 * s + w < 280 by omega) (by decide), nI_clamp (show 70 + 4 * s + w < 2 ^ 31 by omega), true_and]
/-- ofSeller -/
def osf_ (G : MXGf) (m : Nat → Int32) (s : Nat) (w : Int32) : Int32 := if w = 7 then hd_ (wd_ m s) 0 999 else if w = 8 then as_ G m s else m (20 + 8 * s + w.toNatClampNeg)
def sp_ofSeller (v : Nat → Int32) (A : Nat → Nat → Int32) (a b : Int32) : PR := if (0 ≤ a ∧ a ≤ A 0 1 - 1) ∧ (0 ≤ b ∧ b ≤ 8) then (osf_ (G_ (A 0)) (A 0) a.toNatClampNeg b, v, A) else er_ v A 1
theorem r_ofSeller (r : RW h v A) (ok : OK v A) {a b : Int32} (k : KR h (sp_ofSeller v A a b) Q) : ev_ X (d + 9) 155 [.ref 96, .int a, .int b] h Q := by
  obtain ⟨ns, nb, hns, hnb, e1, e2, -⟩ := ok.1.1
  unfold sp_ofSeller at k
  by_cases hc : (0 ≤ a ∧ a ≤ A 0 1 - 1) ∧ (0 ≤ b ∧ b ≤ 8)
  case neg =>
    rw [if_neg hc] at k
    have hf := k.er r ok
    by_cases c1 : (0 ≤ a ∧ a ≤ A 0 1 - 1) <;> by_cases c2 : (0 ≤ b ∧ b ≤ 8)
    · exact False.elim (hc ⟨c1, c2⟩)
    all_goals simp only [i155_0, i155_1, i155_2, i155_5, i155_8, i155_9, i155_10, i155_11, i155_14, i155_17, i155_20, i155_21, i155_22, i155_25, i155_26, i155_27, i155_29, i155_32, i155_33, i155_36, i155_37, i155_40, i155_41, i155_44, i155_47, i155_50, i155_51, i155_53, i155_56, i155_57, i155_58, i155_61, i155_62, i155_65, i155_68, i155_69, i155_72, i155_73, i155_74, i155_77, i155_e, c_in, c_isAhead, c_isSheet, c_areRight, bi_eq0, decide_true, decide_false, and_self, if_true, if_false, reduceCtorEq, not_true_eq_false, not_false_eq_true, mx_k0, mx_t0, fa_wide_le, Option.toList_some, Option.toList_none, List.nil_append, List.cons_append, true_and, and_true, eq_self, true_or, or_true, bi_01, mx_nl_i, mx_nl_r, mx_nl_n, mx_nl_f, mx_nl_d, lj0a, lj0b, lj1a, lj1b, lj2a, lj2b, lj3a, lj3b, lj4a, lj4b, lj5a, lj5b, lj6a, lj6b, lj7a, lj7b, lj8a, lj8b, lj9a, lj9b, lj10a, lj10b, lj11a, lj11b, lj12a, lj12b, lj13a, lj13b, lj14a, lj14b, lj15a, lj15b, lj16a, lj16b, lj17a, lj17b, lj18a, lj18b, lj19a, lj19b, ob_co r.o, c_f1 r, c_f2 r, c_f3 r, c_f4 r, c_f5 r, mo_gk r.o, mo_gv r.o, c_isSeller r.o r.g0, c_isSort r.o r.g0, ar_ik r.g0, ar_ia r.g0, ar_is r.g0, c1, c2]
    all_goals exact hf
  rw [if_pos hc] at k
  obtain ⟨c1, c2⟩ := hc
  have c1' := c1
  rw [e1] at c1'
  obtain ⟨s, hs, rfl⟩ := nI_sel (by omega) c1'
  obtain ⟨w, hw, rfl⟩ := nI_rng (k := 8) (by decide) c2
  rw [nI_clamp (by omega)] at k
  have hs6 : s < 6 := by omega
  by_cases c7 : (nI w : Int32) = 7
  · simp only [osf_, c7, if_true] at k
    simp only [i155_0, i155_1, i155_2, i155_5, i155_8, i155_9, i155_10, i155_11, i155_14, i155_17, i155_20, i155_21, i155_22, i155_25, i155_26, i155_27, i155_29, i155_32, i155_33, i155_36, i155_37, i155_40, i155_41, i155_44, i155_47, i155_50, i155_51, i155_53, i155_56, i155_57, i155_58, i155_61, i155_62, i155_65, i155_68, i155_69, i155_72, i155_73, i155_74, i155_77, i155_e, c_in, c_isAhead, c_isSheet, c_areRight, bi_eq0, decide_true, decide_false, and_self, if_true, if_false, reduceCtorEq, not_true_eq_false, not_false_eq_true, mx_k0, mx_t0, fa_wide_le, Option.toList_some, Option.toList_none, List.nil_append, List.cons_append, true_and, and_true, eq_self, true_or, or_true, bi_01, mx_nl_i, mx_nl_r, mx_nl_n, mx_nl_f, mx_nl_d, lj0a, lj0b, lj1a, lj1b, lj2a, lj2b, lj3a, lj3b, lj4a, lj4b, lj5a, lj5b, lj6a, lj6b, lj7a, lj7b, lj8a, lj8b, lj9a, lj9b, lj10a, lj10b, lj11a, lj11b, lj12a, lj12b, lj13a, lj13b, lj14a, lj14b, lj15a, lj15b, lj16a, lj16b, lj17a, lj17b, lj18a, lj18b, lj19a, lj19b, ob_co r.o, c_f1 r, c_f2 r, c_f3 r, c_f4 r, c_f5 r, mo_gk r.o, mo_gv r.o, c_isSeller r.o r.g0, c_isSort r.o r.g0, ar_ik r.g0, ar_ia r.g0, ar_is r.g0, c1, c2, c7, show ((0 : Int32) ≤ 7 ∧ (7 : Int32) ≤ 8) from by decide, c_would r.g0 hs6, c_held]
    exact k.same r ok
  · by_cases c8 : (nI w : Int32) = 8
    · simp only [osf_, c8, show ¬ ((8 : Int32) = 7) from by decide, if_true, if_false] at k
      simp only [i155_0, i155_1, i155_2, i155_5, i155_8, i155_9, i155_10, i155_11, i155_14, i155_17, i155_20, i155_21, i155_22, i155_25, i155_26, i155_27, i155_29, i155_32, i155_33, i155_36, i155_37, i155_40, i155_41, i155_44, i155_47, i155_50, i155_51, i155_53, i155_56, i155_57, i155_58, i155_61, i155_62, i155_65, i155_68, i155_69, i155_72, i155_73, i155_74, i155_77, i155_e, c_in, c_isAhead, c_isSheet, c_areRight, bi_eq0, decide_true, decide_false, and_self, if_true, if_false, reduceCtorEq, not_true_eq_false, not_false_eq_true, mx_k0, mx_t0, fa_wide_le, Option.toList_some, Option.toList_none, List.nil_append, List.cons_append, true_and, and_true, eq_self, true_or, or_true, bi_01, mx_nl_i, mx_nl_r, mx_nl_n, mx_nl_f, mx_nl_d, lj0a, lj0b, lj1a, lj1b, lj2a, lj2b, lj3a, lj3b, lj4a, lj4b, lj5a, lj5b, lj6a, lj6b, lj7a, lj7b, lj8a, lj8b, lj9a, lj9b, lj10a, lj10b, lj11a, lj11b, lj12a, lj12b, lj13a, lj13b, lj14a, lj14b, lj15a, lj15b, lj16a, lj16b, lj17a, lj17b, lj18a, lj18b, lj19a, lj19b, ob_co r.o, c_f1 r, c_f2 r, c_f3 r, c_f4 r, c_f5 r, mo_gk r.o, mo_gv r.o, c_isSeller r.o r.g0, c_isSort r.o r.g0, ar_ik r.g0, ar_ia r.g0, ar_is r.g0, c1, c2, c8, show ((0 : Int32) ≤ 8 ∧ (8 : Int32) ≤ 8) from by decide, show ¬ ((8 : Int32) = 7) from by decide]
      refine c_asks r ok.1.2.1 (ai := 0) (by decide) hs6 (fun h' A' r' fr sc => ?_)
      simp only [i155_0, i155_1, i155_2, i155_5, i155_8, i155_9, i155_10, i155_11, i155_14, i155_17, i155_20, i155_21, i155_22, i155_25, i155_26, i155_27, i155_29, i155_32, i155_33, i155_36, i155_37, i155_40, i155_41, i155_44, i155_47, i155_50, i155_51, i155_53, i155_56, i155_57, i155_58, i155_61, i155_62, i155_65, i155_68, i155_69, i155_72, i155_73, i155_74, i155_77, i155_e, c_in, c_isAhead, c_isSheet, c_areRight, bi_eq0, decide_true, decide_false, and_self, if_true, if_false, reduceCtorEq, not_true_eq_false, not_false_eq_true, mx_k0, mx_t0, fa_wide_le, Option.toList_some, Option.toList_none, List.nil_append, List.cons_append, true_and, and_true, eq_self, true_or, or_true, bi_01, mx_nl_i, mx_nl_r, mx_nl_n, mx_nl_f, mx_nl_d, lj0a, lj0b, lj1a, lj1b, lj2a, lj2b, lj3a, lj3b, lj4a, lj4b, lj5a, lj5b, lj6a, lj6b, lj7a, lj7b, lj8a, lj8b, lj9a, lj9b, lj10a, lj10b, lj11a, lj11b, lj12a, lj12b, lj13a, lj13b, lj14a, lj14b, lj15a, lj15b, lj16a, lj16b, lj17a, lj17b, lj18a, lj18b, lj19a, lj19b]
      exact k.sc ok r' fr sc
    · have hw7 : w < 7 := by
        have : w ≠ 7 := fun e => c7 (by rw [e]; rfl)
        have : w ≠ 8 := fun e => c8 (by rw [e]; rfl)
        omega
      simp only [osf_, c7, c8, if_false, nI_clamp (show w < 2 ^ 31 by omega)] at k
      simp only [i155_0, i155_1, i155_2, i155_5, i155_8, i155_9, i155_10, i155_11, i155_14, i155_17, i155_20, i155_21, i155_22, i155_25, i155_26, i155_27, i155_29, i155_32, i155_33, i155_36, i155_37, i155_40, i155_41, i155_44, i155_47, i155_50, i155_51, i155_53, i155_56, i155_57, i155_58, i155_61, i155_62, i155_65, i155_68, i155_69, i155_72, i155_73, i155_74, i155_77, i155_e, c_in, c_isAhead, c_isSheet, c_areRight, bi_eq0, decide_true, decide_false, and_self, if_true, if_false, reduceCtorEq, not_true_eq_false, not_false_eq_true, mx_k0, mx_t0, fa_wide_le, Option.toList_some, Option.toList_none, List.nil_append, List.cons_append, true_and, and_true, eq_self, true_or, or_true, bi_01, mx_nl_i, mx_nl_r, mx_nl_n, mx_nl_f, mx_nl_d, lj0a, lj0b, lj1a, lj1b, lj2a, lj2b, lj3a, lj3b, lj4a, lj4b, lj5a, lj5b, lj6a, lj6b, lj7a, lj7b, lj8a, lj8b, lj9a, lj9b, lj10a, lj10b, lj11a, lj11b, lj12a, lj12b, lj13a, lj13b, lj14a, lj14b, lj15a, lj15b, lj16a, lj16b, lj17a, lj17b, lj18a, lj18b, lj19a, lj19b, ob_co r.o, c_f1 r, c_f2 r, c_f3 r, c_f4 r, c_f5 r, mo_gk r.o, mo_gv r.o, c_isSeller r.o r.g0, c_isSort r.o r.g0, ar_ik r.g0, ar_ia r.g0, ar_is r.g0, c1, c2, c7, c8, c_seg r.g0 hs6 (show w < 8 by omega)]
      exact k.same r ok
/-- set -/
def sp_set (v : Nat → Int32) (A : Nat → Nat → Int32) (a b c : Int32) : PR := if (0 ≤ a ∧ a ≤ A 0 1 - 1) ∧ ((b = 0 ∧ (0 ≤ c ∧ c ≤ 99)) ∨ (b = 1 ∧ ((-99999999) ≤ c ∧ c ≤ 99999999)) ∨ (b = 2 ∧ ((-1) ≤ c ∧ c ≤ 999))) then (A 0 (20 + 8 * a.toNatClampNeg + 4 + b.toNatClampNeg), v, up2 A 0 (upd (A 0) (20 + 8 * a.toNatClampNeg + 4 + b.toNatClampNeg) c)) else er_ v A 1
set_option maxHeartbeats 1000000 in
theorem r_set (r : RW h v A) (ok : OK v A) {a b c : Int32} (k : KR h (sp_set v A a b c) Q) : ev_ X (d + 9) 156 [.ref 96, .int a, .int b, .int c] h Q := by
  obtain ⟨ns, nb, hns, hnb, e1, e2, -⟩ := ok.1.1
  unfold sp_set at k
  by_cases c1 : (0 ≤ a ∧ a ≤ A 0 1 - 1)
  case neg =>
    rw [if_neg (fun q => c1 q.1)] at k
    simp only [i156_0, i156_1, i156_2, i156_5, i156_8, i156_9, i156_10, i156_11, i156_14, i156_17, i156_20, i156_21, i156_22, i156_25, i156_26, i156_27, i156_30, i156_31, i156_32, i156_33, i156_36, i156_39, i156_42, i156_45, i156_46, i156_47, i156_50, i156_51, i156_52, i156_55, i156_58, i156_61, i156_64, i156_67, i156_68, i156_69, i156_72, i156_75, i156_78, i156_81, i156_82, i156_83, i156_86, i156_87, i156_89, i156_91, i156_92, i156_93, i156_94, i156_95, i156_96, i156_97, i156_98, i156_100, i156_101, i156_104, i156_106, i156_107, i156_109, i156_110, i156_113, i156_115, i156_116, i156_117, i156_119, i156_e, c_in, c_isAhead, c_isSheet, c_areRight, bi_eq0, decide_true, decide_false, and_self, if_true, if_false, reduceCtorEq, not_true_eq_false, not_false_eq_true, mx_k0, mx_t0, fa_wide_le, Option.toList_some, Option.toList_none, List.nil_append, List.cons_append, true_and, and_true, eq_self, true_or, or_true, bi_01, mx_nl_i, mx_nl_r, mx_nl_n, mx_nl_f, mx_nl_d, lj0a, lj0b, lj1a, lj1b, lj2a, lj2b, lj3a, lj3b, lj4a, lj4b, lj5a, lj5b, lj6a, lj6b, lj7a, lj7b, lj8a, lj8b, lj9a, lj9b, lj10a, lj10b, lj11a, lj11b, lj12a, lj12b, lj13a, lj13b, lj14a, lj14b, lj15a, lj15b, lj16a, lj16b, lj17a, lj17b, lj18a, lj18b, lj19a, lj19b, ob_co r.o, c_f1 r, c_f2 r, c_f3 r, c_f4 r, c_f5 r, mo_gk r.o, mo_gv r.o, c_isSeller r.o r.g0, c_isSort r.o r.g0, ar_ik r.g0, ar_ia r.g0, ar_is r.g0, c1]
    exact k.er r ok
  by_cases c2 : (0 ≤ b ∧ b ≤ 2)
  case neg =>
    rw [if_neg (fun q => c2 (by rcases q.2 with ⟨rfl, _⟩ | ⟨rfl, _⟩ | ⟨rfl, _⟩ <;> decide))] at k
    simp only [i156_0, i156_1, i156_2, i156_5, i156_8, i156_9, i156_10, i156_11, i156_14, i156_17, i156_20, i156_21, i156_22, i156_25, i156_26, i156_27, i156_30, i156_31, i156_32, i156_33, i156_36, i156_39, i156_42, i156_45, i156_46, i156_47, i156_50, i156_51, i156_52, i156_55, i156_58, i156_61, i156_64, i156_67, i156_68, i156_69, i156_72, i156_75, i156_78, i156_81, i156_82, i156_83, i156_86, i156_87, i156_89, i156_91, i156_92, i156_93, i156_94, i156_95, i156_96, i156_97, i156_98, i156_100, i156_101, i156_104, i156_106, i156_107, i156_109, i156_110, i156_113, i156_115, i156_116, i156_117, i156_119, i156_e, c_in, c_isAhead, c_isSheet, c_areRight, bi_eq0, decide_true, decide_false, and_self, if_true, if_false, reduceCtorEq, not_true_eq_false, not_false_eq_true, mx_k0, mx_t0, fa_wide_le, Option.toList_some, Option.toList_none, List.nil_append, List.cons_append, true_and, and_true, eq_self, true_or, or_true, bi_01, mx_nl_i, mx_nl_r, mx_nl_n, mx_nl_f, mx_nl_d, lj0a, lj0b, lj1a, lj1b, lj2a, lj2b, lj3a, lj3b, lj4a, lj4b, lj5a, lj5b, lj6a, lj6b, lj7a, lj7b, lj8a, lj8b, lj9a, lj9b, lj10a, lj10b, lj11a, lj11b, lj12a, lj12b, lj13a, lj13b, lj14a, lj14b, lj15a, lj15b, lj16a, lj16b, lj17a, lj17b, lj18a, lj18b, lj19a, lj19b, ob_co r.o, c_f1 r, c_f2 r, c_f3 r, c_f4 r, c_f5 r, mo_gk r.o, mo_gv r.o, c_isSeller r.o r.g0, c_isSort r.o r.g0, ar_ik r.g0, ar_ia r.g0, ar_is r.g0, c1, c2]
    exact k.er r ok
  have c1' := c1
  rw [e1] at c1'
  obtain ⟨s, hs, rfl⟩ := nI_sel (by omega) c1'
  obtain ⟨w, hw, rfl⟩ := nI_rng (k := 2) (by decide) c2
  have x0 : (20 + 8 * nI s + 4 + nI w : Int32) = nI (20 + 8 * s + 4 + w) := by
    have : (20 + 8 * nI s + 4 : Int32) = nI (20 + 8 * s + 4) := mx_ix 20 8 s 4
    rw [this, nI_add]
  have i0 : mx_in (nI (20 + 8 * s + 4 + w)) 280 = true := mx_inN (by omega) (by decide)
  have t0 : (nI (20 + 8 * s + 4 + w)).toNatClampNeg = 20 + 8 * s + 4 + w := nI_clamp (by omega)
  simp only [c1, true_and, nI_clamp (show s < 2 ^ 31 by omega), nI_clamp (show w < 2 ^ 31 by omega)] at k
  match w, hw with
  | 0, _ =>
    simp only [show ((nI 0 : Int32) = 0) from rfl, show ¬ ((0 : Int32) = 1) from by decide, show ¬ ((0 : Int32) = 2) from by decide, true_and, false_and, or_false] at k x0 i0 t0
    by_cases c3 : (0 ≤ c ∧ c ≤ 99)
    · rw [if_pos c3] at k
      simp only [i156_0, i156_1, i156_2, i156_5, i156_8, i156_9, i156_10, i156_11, i156_14, i156_17, i156_20, i156_21, i156_22, i156_25, i156_26, i156_27, i156_30, i156_31, i156_32, i156_33, i156_36, i156_39, i156_42, i156_45, i156_46, i156_47, i156_50, i156_51, i156_52, i156_55, i156_58, i156_61, i156_64, i156_67, i156_68, i156_69, i156_72, i156_75, i156_78, i156_81, i156_82, i156_83, i156_86, i156_87, i156_89, i156_91, i156_92, i156_93, i156_94, i156_95, i156_96, i156_97, i156_98, i156_100, i156_101, i156_104, i156_106, i156_107, i156_109, i156_110, i156_113, i156_115, i156_116, i156_117, i156_119, i156_e, c_in, c_isAhead, c_isSheet, c_areRight, bi_eq0, decide_true, decide_false, and_self, if_true, if_false, reduceCtorEq, not_true_eq_false, not_false_eq_true, mx_k0, mx_t0, fa_wide_le, Option.toList_some, Option.toList_none, List.nil_append, List.cons_append, true_and, and_true, eq_self, true_or, or_true, bi_01, mx_nl_i, mx_nl_r, mx_nl_n, mx_nl_f, mx_nl_d, lj0a, lj0b, lj1a, lj1b, lj2a, lj2b, lj3a, lj3b, lj4a, lj4b, lj5a, lj5b, lj6a, lj6b, lj7a, lj7b, lj8a, lj8b, lj9a, lj9b, lj10a, lj10b, lj11a, lj11b, lj12a, lj12b, lj13a, lj13b, lj14a, lj14b, lj15a, lj15b, lj16a, lj16b, lj17a, lj17b, lj18a, lj18b, lj19a, lj19b, ob_co r.o, c_f1 r, c_f2 r, c_f3 r, c_f4 r, c_f5 r, mo_gk r.o, mo_gv r.o, c_isSeller r.o r.g0, c_isSort r.o r.g0, ar_ik r.g0, ar_ia r.g0, ar_is r.g0, c1, show ((nI 0 : Int32) = 0) from rfl, show ((0 : Int32) ≤ 0 ∧ (0 : Int32) ≤ 2) from by decide, c3, x0, i0, t0]
      exact k.dd r ok
    · rw [if_neg c3] at k
      simp only [i156_0, i156_1, i156_2, i156_5, i156_8, i156_9, i156_10, i156_11, i156_14, i156_17, i156_20, i156_21, i156_22, i156_25, i156_26, i156_27, i156_30, i156_31, i156_32, i156_33, i156_36, i156_39, i156_42, i156_45, i156_46, i156_47, i156_50, i156_51, i156_52, i156_55, i156_58, i156_61, i156_64, i156_67, i156_68, i156_69, i156_72, i156_75, i156_78, i156_81, i156_82, i156_83, i156_86, i156_87, i156_89, i156_91, i156_92, i156_93, i156_94, i156_95, i156_96, i156_97, i156_98, i156_100, i156_101, i156_104, i156_106, i156_107, i156_109, i156_110, i156_113, i156_115, i156_116, i156_117, i156_119, i156_e, c_in, c_isAhead, c_isSheet, c_areRight, bi_eq0, decide_true, decide_false, and_self, if_true, if_false, reduceCtorEq, not_true_eq_false, not_false_eq_true, mx_k0, mx_t0, fa_wide_le, Option.toList_some, Option.toList_none, List.nil_append, List.cons_append, true_and, and_true, eq_self, true_or, or_true, bi_01, mx_nl_i, mx_nl_r, mx_nl_n, mx_nl_f, mx_nl_d, lj0a, lj0b, lj1a, lj1b, lj2a, lj2b, lj3a, lj3b, lj4a, lj4b, lj5a, lj5b, lj6a, lj6b, lj7a, lj7b, lj8a, lj8b, lj9a, lj9b, lj10a, lj10b, lj11a, lj11b, lj12a, lj12b, lj13a, lj13b, lj14a, lj14b, lj15a, lj15b, lj16a, lj16b, lj17a, lj17b, lj18a, lj18b, lj19a, lj19b, ob_co r.o, c_f1 r, c_f2 r, c_f3 r, c_f4 r, c_f5 r, mo_gk r.o, mo_gv r.o, c_isSeller r.o r.g0, c_isSort r.o r.g0, ar_ik r.g0, ar_ia r.g0, ar_is r.g0, c1, show ((nI 0 : Int32) = 0) from rfl, show ((0 : Int32) ≤ 0 ∧ (0 : Int32) ≤ 2) from by decide, c3]
      exact k.er r ok
  | 1, _ =>
    simp only [show ((nI 1 : Int32) = 1) from rfl, show ¬ ((1 : Int32) = 0) from by decide, show ¬ ((1 : Int32) = 2) from by decide, true_and, false_and, or_false, false_or] at k x0 i0 t0
    by_cases c3 : ((-99999999) ≤ c ∧ c ≤ 99999999)
    · rw [if_pos c3] at k
      simp only [i156_0, i156_1, i156_2, i156_5, i156_8, i156_9, i156_10, i156_11, i156_14, i156_17, i156_20, i156_21, i156_22, i156_25, i156_26, i156_27, i156_30, i156_31, i156_32, i156_33, i156_36, i156_39, i156_42, i156_45, i156_46, i156_47, i156_50, i156_51, i156_52, i156_55, i156_58, i156_61, i156_64, i156_67, i156_68, i156_69, i156_72, i156_75, i156_78, i156_81, i156_82, i156_83, i156_86, i156_87, i156_89, i156_91, i156_92, i156_93, i156_94, i156_95, i156_96, i156_97, i156_98, i156_100, i156_101, i156_104, i156_106, i156_107, i156_109, i156_110, i156_113, i156_115, i156_116, i156_117, i156_119, i156_e, c_in, c_isAhead, c_isSheet, c_areRight, bi_eq0, decide_true, decide_false, and_self, if_true, if_false, reduceCtorEq, not_true_eq_false, not_false_eq_true, mx_k0, mx_t0, fa_wide_le, Option.toList_some, Option.toList_none, List.nil_append, List.cons_append, true_and, and_true, eq_self, true_or, or_true, bi_01, mx_nl_i, mx_nl_r, mx_nl_n, mx_nl_f, mx_nl_d, lj0a, lj0b, lj1a, lj1b, lj2a, lj2b, lj3a, lj3b, lj4a, lj4b, lj5a, lj5b, lj6a, lj6b, lj7a, lj7b, lj8a, lj8b, lj9a, lj9b, lj10a, lj10b, lj11a, lj11b, lj12a, lj12b, lj13a, lj13b, lj14a, lj14b, lj15a, lj15b, lj16a, lj16b, lj17a, lj17b, lj18a, lj18b, lj19a, lj19b, ob_co r.o, c_f1 r, c_f2 r, c_f3 r, c_f4 r, c_f5 r, mo_gk r.o, mo_gv r.o, c_isSeller r.o r.g0, c_isSort r.o r.g0, ar_ik r.g0, ar_ia r.g0, ar_is r.g0, c1, show ((nI 1 : Int32) = 1) from rfl, show ¬ ((1 : Int32) = 0) from by decide, show ((0 : Int32) ≤ 1 ∧ (1 : Int32) ≤ 2) from by decide, c3, x0, i0, t0]
      exact k.dd r ok
    · rw [if_neg c3] at k
      simp only [i156_0, i156_1, i156_2, i156_5, i156_8, i156_9, i156_10, i156_11, i156_14, i156_17, i156_20, i156_21, i156_22, i156_25, i156_26, i156_27, i156_30, i156_31, i156_32, i156_33, i156_36, i156_39, i156_42, i156_45, i156_46, i156_47, i156_50, i156_51, i156_52, i156_55, i156_58, i156_61, i156_64, i156_67, i156_68, i156_69, i156_72, i156_75, i156_78, i156_81, i156_82, i156_83, i156_86, i156_87, i156_89, i156_91, i156_92, i156_93, i156_94, i156_95, i156_96, i156_97, i156_98, i156_100, i156_101, i156_104, i156_106, i156_107, i156_109, i156_110, i156_113, i156_115, i156_116, i156_117, i156_119, i156_e, c_in, c_isAhead, c_isSheet, c_areRight, bi_eq0, decide_true, decide_false, and_self, if_true, if_false, reduceCtorEq, not_true_eq_false, not_false_eq_true, mx_k0, mx_t0, fa_wide_le, Option.toList_some, Option.toList_none, List.nil_append, List.cons_append, true_and, and_true, eq_self, true_or, or_true, bi_01, mx_nl_i, mx_nl_r, mx_nl_n, mx_nl_f, mx_nl_d, lj0a, lj0b, lj1a, lj1b, lj2a, lj2b, lj3a, lj3b, lj4a, lj4b, lj5a, lj5b, lj6a, lj6b, lj7a, lj7b, lj8a, lj8b, lj9a, lj9b, lj10a, lj10b, lj11a, lj11b, lj12a, lj12b, lj13a, lj13b, lj14a, lj14b, lj15a, lj15b, lj16a, lj16b, lj17a, lj17b, lj18a, lj18b, lj19a, lj19b, ob_co r.o, c_f1 r, c_f2 r, c_f3 r, c_f4 r, c_f5 r, mo_gk r.o, mo_gv r.o, c_isSeller r.o r.g0, c_isSort r.o r.g0, ar_ik r.g0, ar_ia r.g0, ar_is r.g0, c1, show ((nI 1 : Int32) = 1) from rfl, show ¬ ((1 : Int32) = 0) from by decide, show ((0 : Int32) ≤ 1 ∧ (1 : Int32) ≤ 2) from by decide, c3]
      exact k.er r ok
  | 2, _ =>
    simp only [show ((nI 2 : Int32) = 2) from rfl, show ¬ ((2 : Int32) = 0) from by decide, show ¬ ((2 : Int32) = 1) from by decide, true_and, false_and, or_false, false_or] at k x0 i0 t0
    by_cases c3 : ((-1) ≤ c ∧ c ≤ 999)
    · rw [if_pos c3] at k
      simp only [i156_0, i156_1, i156_2, i156_5, i156_8, i156_9, i156_10, i156_11, i156_14, i156_17, i156_20, i156_21, i156_22, i156_25, i156_26, i156_27, i156_30, i156_31, i156_32, i156_33, i156_36, i156_39, i156_42, i156_45, i156_46, i156_47, i156_50, i156_51, i156_52, i156_55, i156_58, i156_61, i156_64, i156_67, i156_68, i156_69, i156_72, i156_75, i156_78, i156_81, i156_82, i156_83, i156_86, i156_87, i156_89, i156_91, i156_92, i156_93, i156_94, i156_95, i156_96, i156_97, i156_98, i156_100, i156_101, i156_104, i156_106, i156_107, i156_109, i156_110, i156_113, i156_115, i156_116, i156_117, i156_119, i156_e, c_in, c_isAhead, c_isSheet, c_areRight, bi_eq0, decide_true, decide_false, and_self, if_true, if_false, reduceCtorEq, not_true_eq_false, not_false_eq_true, mx_k0, mx_t0, fa_wide_le, Option.toList_some, Option.toList_none, List.nil_append, List.cons_append, true_and, and_true, eq_self, true_or, or_true, bi_01, mx_nl_i, mx_nl_r, mx_nl_n, mx_nl_f, mx_nl_d, lj0a, lj0b, lj1a, lj1b, lj2a, lj2b, lj3a, lj3b, lj4a, lj4b, lj5a, lj5b, lj6a, lj6b, lj7a, lj7b, lj8a, lj8b, lj9a, lj9b, lj10a, lj10b, lj11a, lj11b, lj12a, lj12b, lj13a, lj13b, lj14a, lj14b, lj15a, lj15b, lj16a, lj16b, lj17a, lj17b, lj18a, lj18b, lj19a, lj19b, ob_co r.o, c_f1 r, c_f2 r, c_f3 r, c_f4 r, c_f5 r, mo_gk r.o, mo_gv r.o, c_isSeller r.o r.g0, c_isSort r.o r.g0, ar_ik r.g0, ar_ia r.g0, ar_is r.g0, c1, show ((nI 2 : Int32) = 2) from rfl, show ¬ ((2 : Int32) = 0) from by decide, show ¬ ((2 : Int32) = 1) from by decide, show ((0 : Int32) ≤ 2 ∧ (2 : Int32) ≤ 2) from by decide, c3, x0, i0, t0]
      exact k.dd r ok
    · rw [if_neg c3] at k
      simp only [i156_0, i156_1, i156_2, i156_5, i156_8, i156_9, i156_10, i156_11, i156_14, i156_17, i156_20, i156_21, i156_22, i156_25, i156_26, i156_27, i156_30, i156_31, i156_32, i156_33, i156_36, i156_39, i156_42, i156_45, i156_46, i156_47, i156_50, i156_51, i156_52, i156_55, i156_58, i156_61, i156_64, i156_67, i156_68, i156_69, i156_72, i156_75, i156_78, i156_81, i156_82, i156_83, i156_86, i156_87, i156_89, i156_91, i156_92, i156_93, i156_94, i156_95, i156_96, i156_97, i156_98, i156_100, i156_101, i156_104, i156_106, i156_107, i156_109, i156_110, i156_113, i156_115, i156_116, i156_117, i156_119, i156_e, c_in, c_isAhead, c_isSheet, c_areRight, bi_eq0, decide_true, decide_false, and_self, if_true, if_false, reduceCtorEq, not_true_eq_false, not_false_eq_true, mx_k0, mx_t0, fa_wide_le, Option.toList_some, Option.toList_none, List.nil_append, List.cons_append, true_and, and_true, eq_self, true_or, or_true, bi_01, mx_nl_i, mx_nl_r, mx_nl_n, mx_nl_f, mx_nl_d, lj0a, lj0b, lj1a, lj1b, lj2a, lj2b, lj3a, lj3b, lj4a, lj4b, lj5a, lj5b, lj6a, lj6b, lj7a, lj7b, lj8a, lj8b, lj9a, lj9b, lj10a, lj10b, lj11a, lj11b, lj12a, lj12b, lj13a, lj13b, lj14a, lj14b, lj15a, lj15b, lj16a, lj16b, lj17a, lj17b, lj18a, lj18b, lj19a, lj19b, ob_co r.o, c_f1 r, c_f2 r, c_f3 r, c_f4 r, c_f5 r, mo_gk r.o, mo_gv r.o, c_isSeller r.o r.g0, c_isSort r.o r.g0, ar_ik r.g0, ar_ia r.g0, ar_is r.g0, c1, show ((nI 2 : Int32) = 2) from rfl, show ¬ ((2 : Int32) = 0) from by decide, show ¬ ((2 : Int32) = 1) from by decide, show ((0 : Int32) ≤ 2 ∧ (2 : Int32) ≤ 2) from by decide, c3]
      exact k.er r ok
/-- as -/
def iof (o k : Int32) : Prop := k = 0 ∨ k = o ∨ (k = 2 ∧ o = 3) ∨ (k = 4 ∧ o = 5) ∨ (k = 1 ∧ o = 6)
def iofb (o k : Int32) : Bool := decide (k = 0 ∨ k = o ∨ (k = 2 ∧ o = 3) ∨ (k = 4 ∧ o = 5) ∨ (k = 1 ∧ o = 6))
theorem c_isOf {o k : Int32} : ev_ X d 157 [.int o, .int k] h Q = Q (some (.int (bi_ (iofb o k)))) h := by
  unfold iofb
  simp only [i157_0, i157_1, i157_4, i157_5, i157_6, i157_9, i157_10, i157_11, i157_14, i157_15, i157_16, i157_19, i157_20, i157_21, i157_24, i157_25, i157_26, i157_29, i157_30, i157_31, i157_34, i157_35, i157_37, i157_40, i157_41, i157_44, i157_45, i157_e, c_in, c_isAhead, c_isSheet, c_areRight, bi_eq0, decide_true, decide_false, and_self, if_true, if_false, reduceCtorEq, not_true_eq_false, not_false_eq_true, mx_k0, mx_t0, fa_wide_le, Option.toList_some, Option.toList_none, List.nil_append, List.cons_append, true_and, and_true, eq_self, true_or, or_true, bi_01, mx_nl_i, mx_nl_r, mx_nl_n, mx_nl_f, mx_nl_d, lj0a, lj0b, lj1a, lj1b, lj2a, lj2b, lj3a, lj3b, lj4a, lj4b, lj5a, lj5b, lj6a, lj6b, lj7a, lj7b, lj8a, lj8b, lj9a, lj9b, lj10a, lj10b, lj11a, lj11b, lj12a, lj12b, lj13a, lj13b, lj14a, lj14b, lj15a, lj15b, lj16a, lj16b, lj17a, lj17b, lj18a, lj18b, lj19a, lj19b]
  repeat' split
  all_goals simp_all [bi_]
def sp_as (v : Nat → Int32) (A : Nat → Nat → Int32) (a b : Int32) : PR := if (0 ≤ a ∧ a ≤ A 0 1 - 1) ∧ (0 ≤ b ∧ b ≤ 6) then (if iofb (A 0 (20 + 8 * a.toNatClampNeg + 0)) b = true then (A 0 (20 + 8 * a.toNatClampNeg + 1), v, A) else er_ v A 5) else er_ v A 1
theorem r_as (r : RW h v A) (ok : OK v A) {a b : Int32} (k : KR h (sp_as v A a b) Q) : ev_ X (d + 9) 158 [.ref 96, .int a, .int b] h Q := by
  obtain ⟨ns, nb, hns, hnb, e1, e2, -⟩ := ok.1.1
  unfold sp_as at k
  by_cases hc : (0 ≤ a ∧ a ≤ A 0 1 - 1) ∧ (0 ≤ b ∧ b ≤ 6)
  case neg =>
    rw [if_neg hc] at k
    have hf := k.er r ok
    by_cases c1 : (0 ≤ a ∧ a ≤ A 0 1 - 1) <;> by_cases c2 : (0 ≤ b ∧ b ≤ 6)
    · exact False.elim (hc ⟨c1, c2⟩)
    all_goals simp only [i158_0, i158_1, i158_2, i158_5, i158_8, i158_9, i158_10, i158_11, i158_14, i158_17, i158_20, i158_21, i158_22, i158_25, i158_26, i158_27, i158_30, i158_31, i158_32, i158_35, i158_36, i158_39, i158_42, i158_43, i158_46, i158_47, i158_48, i158_51, i158_54, i158_55, i158_56, i158_59, i158_e, c_in, c_isAhead, c_isSheet, c_areRight, bi_eq0, decide_true, decide_false, and_self, if_true, if_false, reduceCtorEq, not_true_eq_false, not_false_eq_true, mx_k0, mx_t0, fa_wide_le, Option.toList_some, Option.toList_none, List.nil_append, List.cons_append, true_and, and_true, eq_self, true_or, or_true, bi_01, mx_nl_i, mx_nl_r, mx_nl_n, mx_nl_f, mx_nl_d, lj0a, lj0b, lj1a, lj1b, lj2a, lj2b, lj3a, lj3b, lj4a, lj4b, lj5a, lj5b, lj6a, lj6b, lj7a, lj7b, lj8a, lj8b, lj9a, lj9b, lj10a, lj10b, lj11a, lj11b, lj12a, lj12b, lj13a, lj13b, lj14a, lj14b, lj15a, lj15b, lj16a, lj16b, lj17a, lj17b, lj18a, lj18b, lj19a, lj19b, ob_co r.o, c_f1 r, c_f2 r, c_f3 r, c_f4 r, c_f5 r, mo_gk r.o, mo_gv r.o, c_isSeller r.o r.g0, c_isSort r.o r.g0, ar_ik r.g0, ar_ia r.g0, ar_is r.g0, c1, c2]
    all_goals exact hf
  rw [if_pos hc] at k
  obtain ⟨c1, c2⟩ := hc
  have c1' := c1
  rw [e1] at c1'
  obtain ⟨s, hs, rfl⟩ := nI_sel (by omega) c1'
  rw [nI_clamp (by omega)] at k
  have hs6 : s < 6 := by omega
  cases hi : iofb (A 0 (20 + 8 * s + 0)) b with
  | true =>
    rw [hi, if_pos rfl] at k
    simp only [i158_0, i158_1, i158_2, i158_5, i158_8, i158_9, i158_10, i158_11, i158_14, i158_17, i158_20, i158_21, i158_22, i158_25, i158_26, i158_27, i158_30, i158_31, i158_32, i158_35, i158_36, i158_39, i158_42, i158_43, i158_46, i158_47, i158_48, i158_51, i158_54, i158_55, i158_56, i158_59, i158_e, c_in, c_isAhead, c_isSheet, c_areRight, bi_eq0, decide_true, decide_false, and_self, if_true, if_false, reduceCtorEq, not_true_eq_false, not_false_eq_true, mx_k0, mx_t0, fa_wide_le, Option.toList_some, Option.toList_none, List.nil_append, List.cons_append, true_and, and_true, eq_self, true_or, or_true, bi_01, mx_nl_i, mx_nl_r, mx_nl_n, mx_nl_f, mx_nl_d, lj0a, lj0b, lj1a, lj1b, lj2a, lj2b, lj3a, lj3b, lj4a, lj4b, lj5a, lj5b, lj6a, lj6b, lj7a, lj7b, lj8a, lj8b, lj9a, lj9b, lj10a, lj10b, lj11a, lj11b, lj12a, lj12b, lj13a, lj13b, lj14a, lj14b, lj15a, lj15b, lj16a, lj16b, lj17a, lj17b, lj18a, lj18b, lj19a, lj19b, ob_co r.o, c_f1 r, c_f2 r, c_f3 r, c_f4 r, c_f5 r, mo_gk r.o, mo_gv r.o, c_isSeller r.o r.g0, c_isSort r.o r.g0, ar_ik r.g0, ar_ia r.g0, ar_is r.g0, c1, c2, c_se0 r.g0 hs6, c_se1 r.g0 hs6, c_isOf, hi]
    exact k.same r ok
  | false =>
    rw [hi, if_neg (by decide)] at k
    simp only [i158_0, i158_1, i158_2, i158_5, i158_8, i158_9, i158_10, i158_11, i158_14, i158_17, i158_20, i158_21, i158_22, i158_25, i158_26, i158_27, i158_30, i158_31, i158_32, i158_35, i158_36, i158_39, i158_42, i158_43, i158_46, i158_47, i158_48, i158_51, i158_54, i158_55, i158_56, i158_59, i158_e, c_in, c_isAhead, c_isSheet, c_areRight, bi_eq0, decide_true, decide_false, and_self, if_true, if_false, reduceCtorEq, not_true_eq_false, not_false_eq_true, mx_k0, mx_t0, fa_wide_le, Option.toList_some, Option.toList_none, List.nil_append, List.cons_append, true_and, and_true, eq_self, true_or, or_true, bi_01, mx_nl_i, mx_nl_r, mx_nl_n, mx_nl_f, mx_nl_d, lj0a, lj0b, lj1a, lj1b, lj2a, lj2b, lj3a, lj3b, lj4a, lj4b, lj5a, lj5b, lj6a, lj6b, lj7a, lj7b, lj8a, lj8b, lj9a, lj9b, lj10a, lj10b, lj11a, lj11b, lj12a, lj12b, lj13a, lj13b, lj14a, lj14b, lj15a, lj15b, lj16a, lj16b, lj17a, lj17b, lj18a, lj18b, lj19a, lj19b, ob_co r.o, c_f1 r, c_f2 r, c_f3 r, c_f4 r, c_f5 r, mo_gk r.o, mo_gv r.o, c_isSeller r.o r.g0, c_isSort r.o r.g0, ar_ik r.g0, ar_ia r.g0, ar_is r.g0, c1, c2, c_se0 r.g0 hs6, c_se1 r.g0 hs6, c_isOf, hi]
    exact k.er r ok
/-- may -/
def sp_may (v : Nat → Int32) (A : Nat → Nat → Int32) (a b : Int32) : PR := if (0 ≤ a ∧ a ≤ A 0 1 - 1) ∧ (0 ≤ b ∧ b ≤ 999) then (bi_ (my_ (G_ (A 0)) (A 0) a.toNatClampNeg b), v, A) else er_ v A 1
theorem r_may (r : RW h v A) (ok : OK v A) {a b : Int32} (k : KR h (sp_may v A a b) Q) : ev_ X (d + 9) 159 [.ref 96, .int a, .int b] h Q := by
  obtain ⟨ns, nb, hns, hnb, e1, e2, -⟩ := ok.1.1
  unfold sp_may at k
  by_cases hc : (0 ≤ a ∧ a ≤ A 0 1 - 1) ∧ (0 ≤ b ∧ b ≤ 999)
  case neg =>
    rw [if_neg hc] at k
    have hf := k.er r ok
    by_cases c1 : (0 ≤ a ∧ a ≤ A 0 1 - 1) <;> by_cases c2 : (0 ≤ b ∧ b ≤ 999)
    · exact False.elim (hc ⟨c1, c2⟩)
    all_goals simp only [i159_0, i159_1, i159_2, i159_5, i159_8, i159_9, i159_10, i159_11, i159_14, i159_17, i159_20, i159_21, i159_22, i159_25, i159_26, i159_27, i159_28, i159_31, i159_32, i159_33, i159_36, i159_39, i159_40, i159_43, i159_44, i159_e, c_in, c_isAhead, c_isSheet, c_areRight, bi_eq0, decide_true, decide_false, and_self, if_true, if_false, reduceCtorEq, not_true_eq_false, not_false_eq_true, mx_k0, mx_t0, fa_wide_le, Option.toList_some, Option.toList_none, List.nil_append, List.cons_append, true_and, and_true, eq_self, true_or, or_true, bi_01, mx_nl_i, mx_nl_r, mx_nl_n, mx_nl_f, mx_nl_d, lj0a, lj0b, lj1a, lj1b, lj2a, lj2b, lj3a, lj3b, lj4a, lj4b, lj5a, lj5b, lj6a, lj6b, lj7a, lj7b, lj8a, lj8b, lj9a, lj9b, lj10a, lj10b, lj11a, lj11b, lj12a, lj12b, lj13a, lj13b, lj14a, lj14b, lj15a, lj15b, lj16a, lj16b, lj17a, lj17b, lj18a, lj18b, lj19a, lj19b, ob_co r.o, c_f1 r, c_f2 r, c_f3 r, c_f4 r, c_f5 r, mo_gk r.o, mo_gv r.o, c_isSeller r.o r.g0, c_isSort r.o r.g0, ar_ik r.g0, ar_ia r.g0, ar_is r.g0, c1, c2]
    all_goals exact hf
  rw [if_pos hc] at k
  obtain ⟨c1, c2⟩ := hc
  have c1' := c1
  rw [e1] at c1'
  obtain ⟨s, hs, rfl⟩ := nI_sel (by omega) c1'
  rw [nI_clamp (by omega)] at k
  have hs6 : s < 6 := by omega
  simp only [i159_0, i159_1, i159_2, i159_5, i159_8, i159_9, i159_10, i159_11, i159_14, i159_17, i159_20, i159_21, i159_22, i159_25, i159_26, i159_27, i159_28, i159_31, i159_32, i159_33, i159_36, i159_39, i159_40, i159_43, i159_44, i159_e, c_in, c_isAhead, c_isSheet, c_areRight, bi_eq0, decide_true, decide_false, and_self, if_true, if_false, reduceCtorEq, not_true_eq_false, not_false_eq_true, mx_k0, mx_t0, fa_wide_le, Option.toList_some, Option.toList_none, List.nil_append, List.cons_append, true_and, and_true, eq_self, true_or, or_true, bi_01, mx_nl_i, mx_nl_r, mx_nl_n, mx_nl_f, mx_nl_d, lj0a, lj0b, lj1a, lj1b, lj2a, lj2b, lj3a, lj3b, lj4a, lj4b, lj5a, lj5b, lj6a, lj6b, lj7a, lj7b, lj8a, lj8b, lj9a, lj9b, lj10a, lj10b, lj11a, lj11b, lj12a, lj12b, lj13a, lj13b, lj14a, lj14b, lj15a, lj15b, lj16a, lj16b, lj17a, lj17b, lj18a, lj18b, lj19a, lj19b, ob_co r.o, c_f1 r, c_f2 r, c_f3 r, c_f4 r, c_f5 r, mo_gk r.o, mo_gv r.o, c_isSeller r.o r.g0, c_isSort r.o r.g0, ar_ik r.g0, ar_ia r.g0, ar_is r.g0, c1, c2]
  refine c_mayAsk r ok.1.2.1 (ai := 0) (by decide) hs6 (fun h' A' r' fr sc => ?_)
  have k2 := k.sc ok r' fr sc
  cases hm : my_ (G_ (A 0)) (A 0) s b with
  | true =>
    rw [hm] at k2
    simp only [i159_0, i159_1, i159_2, i159_5, i159_8, i159_9, i159_10, i159_11, i159_14, i159_17, i159_20, i159_21, i159_22, i159_25, i159_26, i159_27, i159_28, i159_31, i159_32, i159_33, i159_36, i159_39, i159_40, i159_43, i159_44, i159_e, c_in, c_isAhead, c_isSheet, c_areRight, bi_eq0, decide_true, decide_false, and_self, if_true, if_false, reduceCtorEq, not_true_eq_false, not_false_eq_true, mx_k0, mx_t0, fa_wide_le, Option.toList_some, Option.toList_none, List.nil_append, List.cons_append, true_and, and_true, eq_self, true_or, or_true, bi_01, mx_nl_i, mx_nl_r, mx_nl_n, mx_nl_f, mx_nl_d, lj0a, lj0b, lj1a, lj1b, lj2a, lj2b, lj3a, lj3b, lj4a, lj4b, lj5a, lj5b, lj6a, lj6b, lj7a, lj7b, lj8a, lj8b, lj9a, lj9b, lj10a, lj10b, lj11a, lj11b, lj12a, lj12b, lj13a, lj13b, lj14a, lj14b, lj15a, lj15b, lj16a, lj16b, lj17a, lj17b, lj18a, lj18b, lj19a, lj19b]
    exact k2
  | false =>
    rw [hm] at k2
    simp only [i159_0, i159_1, i159_2, i159_5, i159_8, i159_9, i159_10, i159_11, i159_14, i159_17, i159_20, i159_21, i159_22, i159_25, i159_26, i159_27, i159_28, i159_31, i159_32, i159_33, i159_36, i159_39, i159_40, i159_43, i159_44, i159_e, c_in, c_isAhead, c_isSheet, c_areRight, bi_eq0, decide_true, decide_false, and_self, if_true, if_false, reduceCtorEq, not_true_eq_false, not_false_eq_true, mx_k0, mx_t0, fa_wide_le, Option.toList_some, Option.toList_none, List.nil_append, List.cons_append, true_and, and_true, eq_self, true_or, or_true, bi_01, mx_nl_i, mx_nl_r, mx_nl_n, mx_nl_f, mx_nl_d, lj0a, lj0b, lj1a, lj1b, lj2a, lj2b, lj3a, lj3b, lj4a, lj4b, lj5a, lj5b, lj6a, lj6b, lj7a, lj7b, lj8a, lj8b, lj9a, lj9b, lj10a, lj10b, lj11a, lj11b, lj12a, lj12b, lj13a, lj13b, lj14a, lj14b, lj15a, lj15b, lj16a, lj16b, lj17a, lj17b, lj18a, lj18b, lj19a, lj19b]
    exact k2
/-- sort -/
def com_ (m : Nat → Int32) (s : Nat) (a b c : Int32) : Nat → Int32 := upd (upd (upd (upd (upd m (70 + 4 * s + 0) a) (70 + 4 * s + 1) b) (70 + 4 * s + 2) c) (70 + 4 * s + 3) 0) 2 (m 2 + 1)
theorem c_comes (r : RW h v A) {nb : Nat} (hb : nb < 8) (e2 : A 0 2 = nI nb) {a b c : Int32} : ev_ X d 161 [.ref 96, .int a, .int b, .int c] h Q = Q none (h.set 97 (.inl (0, 280, .inl (com_ (A 0) nb a b c)))) := by
  have g0 := r.g0
  have x0 : (70 + 4 * nI nb : Int32) = nI (70 + 4 * nb) := by
    show nI 70 + nI 4 * nI nb = _
    rw [pk_mul, nI_add]
  have y0 : (nI (70 + 4 * nb) + 0 : Int32) = nI (70 + 4 * nb + 0) := nI_add _ 0
  have y1 : (nI (70 + 4 * nb) + 1 : Int32) = nI (70 + 4 * nb + 1) := nI_add _ 1
  have y2 : (nI (70 + 4 * nb) + 2 : Int32) = nI (70 + 4 * nb + 2) := nI_add _ 2
  have y3 : (nI (70 + 4 * nb) + 3 : Int32) = nI (70 + 4 * nb + 3) := nI_add _ 3
  have z : ∀ j, j < 4 → mx_in (nI (70 + 4 * nb + j)) 280 = true := fun j hj => mx_inN (by omega) (by decide)
  have w : ∀ j, j < 4 → (nI (70 + 4 * nb + j)).toNatClampNeg = 70 + 4 * nb + j := fun j hj => nI_clamp (by omega)
  have gs : ∀ f, (h.set 97 (.inl (0, 280, .inl f)))[97]? = some (.inl (0, 280, .inl f)) := fun f => mx_gss (by rw [g0]; rfl)
  have os : ∀ f, (h.set 97 (.inl (0, 280, .inl f)))[96]? = some (.inr (12, mof v)) := fun f => by rw [List.getElem?_set_ne (by decide)]; exact r.o
  have u1 : ∀ (f : Nat → Int32) (j : Nat) (y : Int32), upd f (70 + 4 * nb + j) y 2 = f 2 := fun f j y => by unfold upd; rw [if_neg (by omega)]
  simp only [i161_0, i161_2, i161_3, i161_4, i161_7, i161_8, i161_9, i161_10, i161_11, i161_13, i161_14, i161_17, i161_19, i161_20, i161_21, i161_22, i161_23, i161_24, i161_27, i161_29, i161_30, i161_31, i161_32, i161_33, i161_34, i161_37, i161_39, i161_40, i161_41, i161_42, i161_43, i161_44, i161_47, i161_49, i161_50, i161_51, i161_52, i161_53, i161_54, i161_57, i161_58, i161_59, i161_60, i161_61, i161_62, i161_63, i161_e, c_in, c_isAhead, c_isSheet, c_areRight, bi_eq0, decide_true, decide_false, and_self, if_true, if_false, reduceCtorEq, not_true_eq_false, not_false_eq_true, mx_k0, mx_t0, fa_wide_le, Option.toList_some, Option.toList_none, List.nil_append, List.cons_append, true_and, and_true, eq_self, true_or, or_true, bi_01, mx_nl_i, mx_nl_r, mx_nl_n, mx_nl_f, mx_nl_d, lj0a, lj0b, lj1a, lj1b, lj2a, lj2b, lj3a, lj3b, lj4a, lj4b, lj5a, lj5b, lj6a, lj6b, lj7a, lj7b, lj8a, lj8b, lj9a, lj9b, lj10a, lj10b, lj11a, lj11b, lj12a, lj12b, lj13a, lj13b, lj14a, lj14b, lj15a, lj15b, lj16a, lj16b, lj17a, lj17b, lj18a, lj18b, lj19a, lj19b, ob_co r.o, c_f1 r, c_f2 r, c_f3 r, c_f4 r, c_f5 r, mo_gk r.o, mo_gv r.o, c_isSeller r.o r.g0, c_isSort r.o r.g0, ar_ik r.g0, ar_ia r.g0, ar_is r.g0, e2, x0, y0, y1, y2, y3, z 0 (by decide), z 1 (by decide), z 2 (by decide), z 3 (by decide), w 0 (by decide), w 1 (by decide), w 2 (by decide), w 3 (by decide), mo_gk (os _), mo_gv (os _), ar_ik (gs _), ar_ia (gs _), ar_is (gs _), List.set_set, u1, pk_us, com_]
def rgt (a b c : Int32) : Prop := (0 ≤ a ∧ a ≤ 9) ∧ (0 ≤ b ∧ b ≤ 999) ∧ (0 ≤ c ∧ c ≤ 9)
def sp_sort (v : Nat → Int32) (A : Nat → Nat → Int32) (a b c : Int32) : PR := if (0 ≤ a ∧ a ≤ 9) ∧ (0 ≤ b ∧ b ≤ 999) ∧ (0 ≤ c ∧ c ≤ 9) then (if A 0 2 = 8 then er_ v A 4 else (A 0 2, v, up2 A 0 (com_ (A 0) (A 0 2).toNatClampNeg a b c))) else er_ v A 1
theorem r_sort (r : RW h v A) (ok : OK v A) {a b c : Int32} (k : KR h (sp_sort v A a b c) Q) : ev_ X (d + 9) 162 [.ref 96, .int a, .int b, .int c] h Q := by
  obtain ⟨ns, nb, hns, hnb, e1, e2, -⟩ := ok.1.1
  unfold sp_sort at k
  by_cases hc : (0 ≤ a ∧ a ≤ 9) ∧ (0 ≤ b ∧ b ≤ 999) ∧ (0 ≤ c ∧ c ≤ 9)
  case neg =>
    rw [if_neg hc] at k
    simp only [i162_0, i162_1, i162_2, i162_3, i162_6, i162_9, i162_10, i162_11, i162_14, i162_15, i162_16, i162_19, i162_20, i162_21, i162_23, i162_26, i162_27, i162_28, i162_31, i162_32, i162_33, i162_34, i162_35, i162_36, i162_39, i162_40, i162_43, i162_44, i162_45, i162_46, i162_47, i162_e, c_in, c_isAhead, c_isSheet, c_areRight, bi_eq0, decide_true, decide_false, and_self, if_true, if_false, reduceCtorEq, not_true_eq_false, not_false_eq_true, mx_k0, mx_t0, fa_wide_le, Option.toList_some, Option.toList_none, List.nil_append, List.cons_append, true_and, and_true, eq_self, true_or, or_true, bi_01, mx_nl_i, mx_nl_r, mx_nl_n, mx_nl_f, mx_nl_d, lj0a, lj0b, lj1a, lj1b, lj2a, lj2b, lj3a, lj3b, lj4a, lj4b, lj5a, lj5b, lj6a, lj6b, lj7a, lj7b, lj8a, lj8b, lj9a, lj9b, lj10a, lj10b, lj11a, lj11b, lj12a, lj12b, lj13a, lj13b, lj14a, lj14b, lj15a, lj15b, lj16a, lj16b, lj17a, lj17b, lj18a, lj18b, lj19a, lj19b, ob_co r.o, c_f1 r, c_f2 r, c_f3 r, c_f4 r, c_f5 r, mo_gk r.o, mo_gv r.o, c_isSeller r.o r.g0, c_isSort r.o r.g0, ar_ik r.g0, ar_ia r.g0, ar_is r.g0, hc]
    exact k.er r ok
  rw [if_pos hc] at k
  by_cases c4 : A 0 2 = 8
  · rw [if_pos c4] at k
    simp only [i162_0, i162_1, i162_2, i162_3, i162_6, i162_9, i162_10, i162_11, i162_14, i162_15, i162_16, i162_19, i162_20, i162_21, i162_23, i162_26, i162_27, i162_28, i162_31, i162_32, i162_33, i162_34, i162_35, i162_36, i162_39, i162_40, i162_43, i162_44, i162_45, i162_46, i162_47, i162_e, c_in, c_isAhead, c_isSheet, c_areRight, bi_eq0, decide_true, decide_false, and_self, if_true, if_false, reduceCtorEq, not_true_eq_false, not_false_eq_true, mx_k0, mx_t0, fa_wide_le, Option.toList_some, Option.toList_none, List.nil_append, List.cons_append, true_and, and_true, eq_self, true_or, or_true, bi_01, mx_nl_i, mx_nl_r, mx_nl_n, mx_nl_f, mx_nl_d, lj0a, lj0b, lj1a, lj1b, lj2a, lj2b, lj3a, lj3b, lj4a, lj4b, lj5a, lj5b, lj6a, lj6b, lj7a, lj7b, lj8a, lj8b, lj9a, lj9b, lj10a, lj10b, lj11a, lj11b, lj12a, lj12b, lj13a, lj13b, lj14a, lj14b, lj15a, lj15b, lj16a, lj16b, lj17a, lj17b, lj18a, lj18b, lj19a, lj19b, ob_co r.o, c_f1 r, c_f2 r, c_f3 r, c_f4 r, c_f5 r, mo_gk r.o, mo_gv r.o, c_isSeller r.o r.g0, c_isSort r.o r.g0, ar_ik r.g0, ar_ia r.g0, ar_is r.g0, hc, c4]
    exact k.er r ok
  · have hlt : nb < 8 := by
      have : ¬ nb = 8 := fun e => c4 (by rw [e2, e]; rfl)
      omega
    rw [if_neg c4, e2, nI_clamp (by omega)] at k
    have r1 := r.s0 (f := com_ (A 0) nb a b c)
    have g1 := r1.g0
    rw [up2_s] at g1
    have e3 : com_ (A 0) nb a b c 2 = nI nb + 1 := by unfold com_; rw [pk_us, e2]
    have e4 : (nI nb + 1 - 1 : Int32) = nI nb := by rw [nI_1, nI_pred]
    simp only [i162_0, i162_1, i162_2, i162_3, i162_6, i162_9, i162_10, i162_11, i162_14, i162_15, i162_16, i162_19, i162_20, i162_21, i162_23, i162_26, i162_27, i162_28, i162_31, i162_32, i162_33, i162_34, i162_35, i162_36, i162_39, i162_40, i162_43, i162_44, i162_45, i162_46, i162_47, i162_e, c_in, c_isAhead, c_isSheet, c_areRight, bi_eq0, decide_true, decide_false, and_self, if_true, if_false, reduceCtorEq, not_true_eq_false, not_false_eq_true, mx_k0, mx_t0, fa_wide_le, Option.toList_some, Option.toList_none, List.nil_append, List.cons_append, true_and, and_true, eq_self, true_or, or_true, bi_01, mx_nl_i, mx_nl_r, mx_nl_n, mx_nl_f, mx_nl_d, lj0a, lj0b, lj1a, lj1b, lj2a, lj2b, lj3a, lj3b, lj4a, lj4b, lj5a, lj5b, lj6a, lj6b, lj7a, lj7b, lj8a, lj8b, lj9a, lj9b, lj10a, lj10b, lj11a, lj11b, lj12a, lj12b, lj13a, lj13b, lj14a, lj14b, lj15a, lj15b, lj16a, lj16b, lj17a, lj17b, lj18a, lj18b, lj19a, lj19b, ob_co r.o, c_f1 r, c_f2 r, c_f3 r, c_f4 r, c_f5 r, mo_gk r.o, mo_gv r.o, c_isSeller r.o r.g0, c_isSort r.o r.g0, ar_ik r.g0, ar_ia r.g0, ar_is r.g0, hc, c4, c_comes r hlt e2, mo_gk r1.o, mo_gv r1.o, ar_ik g1, ar_ia g1, e3, e4]
    exact k.dd r ok
/-- ofSort -/
def sp_ofSort (v : Nat → Int32) (A : Nat → Nat → Int32) (a b : Int32) : PR := if (0 ≤ a ∧ a ≤ A 0 2 - 1) ∧ (0 ≤ b ∧ b ≤ 4) then ((if b = 4 then fe_ (A 0) a.toNatClampNeg else A 0 (70 + 4 * a.toNatClampNeg + b.toNatClampNeg)), v, A) else er_ v A 1
theorem r_ofSort (r : RW h v A) (ok : OK v A) {a b : Int32} (k : KR h (sp_ofSort v A a b) Q) : ev_ X (d + 9) 164 [.ref 96, .int a, .int b] h Q := by
  obtain ⟨ns, nb, hns, hnb, e1, e2, e3⟩ := ok.1.1
  unfold sp_ofSort at k
  by_cases hc : (0 ≤ a ∧ a ≤ A 0 2 - 1) ∧ (0 ≤ b ∧ b ≤ 4)
  case neg =>
    rw [if_neg hc] at k
    have hf := k.er r ok
    by_cases c1 : (0 ≤ a ∧ a ≤ A 0 2 - 1) <;> by_cases c2 : (0 ≤ b ∧ b ≤ 4)
    · exact False.elim (hc ⟨c1, c2⟩)
    all_goals simp only [i164_0, i164_1, i164_2, i164_5, i164_8, i164_9, i164_10, i164_11, i164_14, i164_17, i164_20, i164_21, i164_22, i164_25, i164_26, i164_27, i164_28, i164_31, i164_32, i164_35, i164_36, i164_39, i164_42, i164_43, i164_46, i164_47, i164_48, i164_51, i164_e, c_in, c_isAhead, c_isSheet, c_areRight, bi_eq0, decide_true, decide_false, and_self, if_true, if_false, reduceCtorEq, not_true_eq_false, not_false_eq_true, mx_k0, mx_t0, fa_wide_le, Option.toList_some, Option.toList_none, List.nil_append, List.cons_append, true_and, and_true, eq_self, true_or, or_true, bi_01, mx_nl_i, mx_nl_r, mx_nl_n, mx_nl_f, mx_nl_d, lj0a, lj0b, lj1a, lj1b, lj2a, lj2b, lj3a, lj3b, lj4a, lj4b, lj5a, lj5b, lj6a, lj6b, lj7a, lj7b, lj8a, lj8b, lj9a, lj9b, lj10a, lj10b, lj11a, lj11b, lj12a, lj12b, lj13a, lj13b, lj14a, lj14b, lj15a, lj15b, lj16a, lj16b, lj17a, lj17b, lj18a, lj18b, lj19a, lj19b, ob_co r.o, c_f1 r, c_f2 r, c_f3 r, c_f4 r, c_f5 r, mo_gk r.o, mo_gv r.o, c_isSeller r.o r.g0, c_isSort r.o r.g0, ar_ik r.g0, ar_ia r.g0, ar_is r.g0, c1, c2]
    all_goals exact hf
  rw [if_pos hc] at k
  obtain ⟨c1, c2⟩ := hc
  have c1' := c1
  rw [e2] at c1'
  obtain ⟨s, hs, rfl⟩ := nI_sel (by omega) c1'
  obtain ⟨w, hw, rfl⟩ := nI_rng (k := 4) (by decide) c2
  rw [nI_clamp (by omega), nI_clamp (by omega)] at k
  have hs8 : s < 8 := by omega
  by_cases c7 : (nI w : Int32) = 4
  · rw [if_pos c7] at k
    simp only [i164_0, i164_1, i164_2, i164_5, i164_8, i164_9, i164_10, i164_11, i164_14, i164_17, i164_20, i164_21, i164_22, i164_25, i164_26, i164_27, i164_28, i164_31, i164_32, i164_35, i164_36, i164_39, i164_42, i164_43, i164_46, i164_47, i164_48, i164_51, i164_e, c_in, c_isAhead, c_isSheet, c_areRight, bi_eq0, decide_true, decide_false, and_self, if_true, if_false, reduceCtorEq, not_true_eq_false, not_false_eq_true, mx_k0, mx_t0, fa_wide_le, Option.toList_some, Option.toList_none, List.nil_append, List.cons_append, true_and, and_true, eq_self, true_or, or_true, bi_01, mx_nl_i, mx_nl_r, mx_nl_n, mx_nl_f, mx_nl_d, lj0a, lj0b, lj1a, lj1b, lj2a, lj2b, lj3a, lj3b, lj4a, lj4b, lj5a, lj5b, lj6a, lj6b, lj7a, lj7b, lj8a, lj8b, lj9a, lj9b, lj10a, lj10b, lj11a, lj11b, lj12a, lj12b, lj13a, lj13b, lj14a, lj14b, lj15a, lj15b, lj16a, lj16b, lj17a, lj17b, lj18a, lj18b, lj19a, lj19b, ob_co r.o, c_f1 r, c_f2 r, c_f3 r, c_f4 r, c_f5 r, mo_gk r.o, mo_gv r.o, c_isSeller r.o r.g0, c_isSort r.o r.g0, ar_ik r.g0, ar_ia r.g0, ar_is r.g0, c1, c2, c7, show ((0 : Int32) ≤ 4 ∧ (4 : Int32) ≤ 4) from by decide, c_feels r.g0 hs8 e3]
    exact k.same r ok
  · rw [if_neg c7] at k
    simp only [i164_0, i164_1, i164_2, i164_5, i164_8, i164_9, i164_10, i164_11, i164_14, i164_17, i164_20, i164_21, i164_22, i164_25, i164_26, i164_27, i164_28, i164_31, i164_32, i164_35, i164_36, i164_39, i164_42, i164_43, i164_46, i164_47, i164_48, i164_51, i164_e, c_in, c_isAhead, c_isSheet, c_areRight, bi_eq0, decide_true, decide_false, and_self, if_true, if_false, reduceCtorEq, not_true_eq_false, not_false_eq_true, mx_k0, mx_t0, fa_wide_le, Option.toList_some, Option.toList_none, List.nil_append, List.cons_append, true_and, and_true, eq_self, true_or, or_true, bi_01, mx_nl_i, mx_nl_r, mx_nl_n, mx_nl_f, mx_nl_d, lj0a, lj0b, lj1a, lj1b, lj2a, lj2b, lj3a, lj3b, lj4a, lj4b, lj5a, lj5b, lj6a, lj6b, lj7a, lj7b, lj8a, lj8b, lj9a, lj9b, lj10a, lj10b, lj11a, lj11b, lj12a, lj12b, lj13a, lj13b, lj14a, lj14b, lj15a, lj15b, lj16a, lj16b, lj17a, lj17b, lj18a, lj18b, lj19a, lj19b, ob_co r.o, c_f1 r, c_f2 r, c_f3 r, c_f4 r, c_f5 r, mo_gk r.o, mo_gv r.o, c_isSeller r.o r.g0, c_isSort r.o r.g0, ar_ik r.g0, ar_ia r.g0, ar_is r.g0, c1, c2, c7, c_sog r.g0 hs8 (show w < 8 by omega)]
    exact k.same r ok
/-- now -/
def sp_now (v : Nat → Int32) (A : Nat → Nat → Int32) (a b : Int32) : PR := if (0 ≤ a ∧ a ≤ 4) ∧ (0 ≤ b ∧ b ≤ (if a = 0 then 2 else if a = 4 then 999 else 40)) then (A 0 (3 + a.toNatClampNeg), v, up2 A 0 (upd (A 0) (3 + a.toNatClampNeg) b)) else er_ v A 1
theorem r_now (r : RW h v A) (ok : OK v A) {a b : Int32} (k : KR h (sp_now v A a b) Q) : ev_ X (d + 9) 166 [.ref 96, .int a, .int b] h Q := by
  unfold sp_now at k
  by_cases c1 : (0 ≤ a ∧ a ≤ 4)
  case neg =>
    rw [if_neg (fun q => c1 q.1)] at k
    simp only [i166_0, i166_1, i166_2, i166_3, i166_6, i166_9, i166_12, i166_13, i166_14, i166_15, i166_16, i166_19, i166_22, i166_25, i166_26, i166_27, i166_30, i166_33, i166_36, i166_39, i166_42, i166_45, i166_46, i166_47, i166_50, i166_51, i166_52, i166_55, i166_56, i166_57, i166_58, i166_59, i166_60, i166_61, i166_64, i166_65, i166_66, i166_67, i166_68, i166_69, i166_70, i166_e, c_in, c_isAhead, c_isSheet, c_areRight, bi_eq0, decide_true, decide_false, and_self, if_true, if_false, reduceCtorEq, not_true_eq_false, not_false_eq_true, mx_k0, mx_t0, fa_wide_le, Option.toList_some, Option.toList_none, List.nil_append, List.cons_append, true_and, and_true, eq_self, true_or, or_true, bi_01, mx_nl_i, mx_nl_r, mx_nl_n, mx_nl_f, mx_nl_d, lj0a, lj0b, lj1a, lj1b, lj2a, lj2b, lj3a, lj3b, lj4a, lj4b, lj5a, lj5b, lj6a, lj6b, lj7a, lj7b, lj8a, lj8b, lj9a, lj9b, lj10a, lj10b, lj11a, lj11b, lj12a, lj12b, lj13a, lj13b, lj14a, lj14b, lj15a, lj15b, lj16a, lj16b, lj17a, lj17b, lj18a, lj18b, lj19a, lj19b, ob_co r.o, c_f1 r, c_f2 r, c_f3 r, c_f4 r, c_f5 r, mo_gk r.o, mo_gv r.o, c_isSeller r.o r.g0, c_isSort r.o r.g0, ar_ik r.g0, ar_ia r.g0, ar_is r.g0, c1]
    exact k.er r ok
  obtain ⟨w, hw, rfl⟩ := nI_rng (k := 4) (by decide) c1
  have x0 : (3 + nI w : Int32) = nI (3 + w) := nI_add 3 w
  have i0 : mx_in (nI (3 + w)) 280 = true := mx_inN (by omega) (by decide)
  have t0 : (nI (3 + w)).toNatClampNeg = 3 + w := nI_clamp (by omega)
  rw [nI_clamp (by omega)] at k
  by_cases c4 : (nI w : Int32) = 0
  · rw [c4] at k c1 x0
    simp only [if_true, c1, true_and] at k
    by_cases c2 : (0 ≤ b ∧ b ≤ 2)
    · rw [if_pos c2] at k
      simp only [i166_0, i166_1, i166_2, i166_3, i166_6, i166_9, i166_12, i166_13, i166_14, i166_15, i166_16, i166_19, i166_22, i166_25, i166_26, i166_27, i166_30, i166_33, i166_36, i166_39, i166_42, i166_45, i166_46, i166_47, i166_50, i166_51, i166_52, i166_55, i166_56, i166_57, i166_58, i166_59, i166_60, i166_61, i166_64, i166_65, i166_66, i166_67, i166_68, i166_69, i166_70, i166_e, c_in, c_isAhead, c_isSheet, c_areRight, bi_eq0, decide_true, decide_false, and_self, if_true, if_false, reduceCtorEq, not_true_eq_false, not_false_eq_true, mx_k0, mx_t0, fa_wide_le, Option.toList_some, Option.toList_none, List.nil_append, List.cons_append, true_and, and_true, eq_self, true_or, or_true, bi_01, mx_nl_i, mx_nl_r, mx_nl_n, mx_nl_f, mx_nl_d, lj0a, lj0b, lj1a, lj1b, lj2a, lj2b, lj3a, lj3b, lj4a, lj4b, lj5a, lj5b, lj6a, lj6b, lj7a, lj7b, lj8a, lj8b, lj9a, lj9b, lj10a, lj10b, lj11a, lj11b, lj12a, lj12b, lj13a, lj13b, lj14a, lj14b, lj15a, lj15b, lj16a, lj16b, lj17a, lj17b, lj18a, lj18b, lj19a, lj19b, ob_co r.o, c_f1 r, c_f2 r, c_f3 r, c_f4 r, c_f5 r, mo_gk r.o, mo_gv r.o, c_isSeller r.o r.g0, c_isSort r.o r.g0, ar_ik r.g0, ar_ia r.g0, ar_is r.g0, c4, c1, c2, x0, i0, t0]
      exact k.dd r ok
    · rw [if_neg c2] at k
      simp only [i166_0, i166_1, i166_2, i166_3, i166_6, i166_9, i166_12, i166_13, i166_14, i166_15, i166_16, i166_19, i166_22, i166_25, i166_26, i166_27, i166_30, i166_33, i166_36, i166_39, i166_42, i166_45, i166_46, i166_47, i166_50, i166_51, i166_52, i166_55, i166_56, i166_57, i166_58, i166_59, i166_60, i166_61, i166_64, i166_65, i166_66, i166_67, i166_68, i166_69, i166_70, i166_e, c_in, c_isAhead, c_isSheet, c_areRight, bi_eq0, decide_true, decide_false, and_self, if_true, if_false, reduceCtorEq, not_true_eq_false, not_false_eq_true, mx_k0, mx_t0, fa_wide_le, Option.toList_some, Option.toList_none, List.nil_append, List.cons_append, true_and, and_true, eq_self, true_or, or_true, bi_01, mx_nl_i, mx_nl_r, mx_nl_n, mx_nl_f, mx_nl_d, lj0a, lj0b, lj1a, lj1b, lj2a, lj2b, lj3a, lj3b, lj4a, lj4b, lj5a, lj5b, lj6a, lj6b, lj7a, lj7b, lj8a, lj8b, lj9a, lj9b, lj10a, lj10b, lj11a, lj11b, lj12a, lj12b, lj13a, lj13b, lj14a, lj14b, lj15a, lj15b, lj16a, lj16b, lj17a, lj17b, lj18a, lj18b, lj19a, lj19b, ob_co r.o, c_f1 r, c_f2 r, c_f3 r, c_f4 r, c_f5 r, mo_gk r.o, mo_gv r.o, c_isSeller r.o r.g0, c_isSort r.o r.g0, ar_ik r.g0, ar_ia r.g0, ar_is r.g0, c4, c1, c2]
      exact k.er r ok
  · by_cases c5 : (nI w : Int32) = 4
    · rw [c5] at k c1 x0
      simp only [show ¬ ((4 : Int32) = 0) from by decide, if_true, if_false, c1, true_and] at k
      by_cases c2 : (0 ≤ b ∧ b ≤ 999)
      · rw [if_pos c2] at k
        simp only [i166_0, i166_1, i166_2, i166_3, i166_6, i166_9, i166_12, i166_13, i166_14, i166_15, i166_16, i166_19, i166_22, i166_25, i166_26, i166_27, i166_30, i166_33, i166_36, i166_39, i166_42, i166_45, i166_46, i166_47, i166_50, i166_51, i166_52, i166_55, i166_56, i166_57, i166_58, i166_59, i166_60, i166_61, i166_64, i166_65, i166_66, i166_67, i166_68, i166_69, i166_70, i166_e, c_in, c_isAhead, c_isSheet, c_areRight, bi_eq0, decide_true, decide_false, and_self, if_true, if_false, reduceCtorEq, not_true_eq_false, not_false_eq_true, mx_k0, mx_t0, fa_wide_le, Option.toList_some, Option.toList_none, List.nil_append, List.cons_append, true_and, and_true, eq_self, true_or, or_true, bi_01, mx_nl_i, mx_nl_r, mx_nl_n, mx_nl_f, mx_nl_d, lj0a, lj0b, lj1a, lj1b, lj2a, lj2b, lj3a, lj3b, lj4a, lj4b, lj5a, lj5b, lj6a, lj6b, lj7a, lj7b, lj8a, lj8b, lj9a, lj9b, lj10a, lj10b, lj11a, lj11b, lj12a, lj12b, lj13a, lj13b, lj14a, lj14b, lj15a, lj15b, lj16a, lj16b, lj17a, lj17b, lj18a, lj18b, lj19a, lj19b, ob_co r.o, c_f1 r, c_f2 r, c_f3 r, c_f4 r, c_f5 r, mo_gk r.o, mo_gv r.o, c_isSeller r.o r.g0, c_isSort r.o r.g0, ar_ik r.g0, ar_ia r.g0, ar_is r.g0, c5, show ¬ ((4 : Int32) = 0) from by decide, c1, c2, x0, i0, t0]
        exact k.dd r ok
      · rw [if_neg c2] at k
        simp only [i166_0, i166_1, i166_2, i166_3, i166_6, i166_9, i166_12, i166_13, i166_14, i166_15, i166_16, i166_19, i166_22, i166_25, i166_26, i166_27, i166_30, i166_33, i166_36, i166_39, i166_42, i166_45, i166_46, i166_47, i166_50, i166_51, i166_52, i166_55, i166_56, i166_57, i166_58, i166_59, i166_60, i166_61, i166_64, i166_65, i166_66, i166_67, i166_68, i166_69, i166_70, i166_e, c_in, c_isAhead, c_isSheet, c_areRight, bi_eq0, decide_true, decide_false, and_self, if_true, if_false, reduceCtorEq, not_true_eq_false, not_false_eq_true, mx_k0, mx_t0, fa_wide_le, Option.toList_some, Option.toList_none, List.nil_append, List.cons_append, true_and, and_true, eq_self, true_or, or_true, bi_01, mx_nl_i, mx_nl_r, mx_nl_n, mx_nl_f, mx_nl_d, lj0a, lj0b, lj1a, lj1b, lj2a, lj2b, lj3a, lj3b, lj4a, lj4b, lj5a, lj5b, lj6a, lj6b, lj7a, lj7b, lj8a, lj8b, lj9a, lj9b, lj10a, lj10b, lj11a, lj11b, lj12a, lj12b, lj13a, lj13b, lj14a, lj14b, lj15a, lj15b, lj16a, lj16b, lj17a, lj17b, lj18a, lj18b, lj19a, lj19b, ob_co r.o, c_f1 r, c_f2 r, c_f3 r, c_f4 r, c_f5 r, mo_gk r.o, mo_gv r.o, c_isSeller r.o r.g0, c_isSort r.o r.g0, ar_ik r.g0, ar_ia r.g0, ar_is r.g0, c5, show ¬ ((4 : Int32) = 0) from by decide, c1, c2]
        exact k.er r ok
    · simp only [c4, c5, if_false, c1, true_and] at k
      by_cases c2 : (0 ≤ b ∧ b ≤ 40)
      · rw [if_pos c2] at k
        simp only [i166_0, i166_1, i166_2, i166_3, i166_6, i166_9, i166_12, i166_13, i166_14, i166_15, i166_16, i166_19, i166_22, i166_25, i166_26, i166_27, i166_30, i166_33, i166_36, i166_39, i166_42, i166_45, i166_46, i166_47, i166_50, i166_51, i166_52, i166_55, i166_56, i166_57, i166_58, i166_59, i166_60, i166_61, i166_64, i166_65, i166_66, i166_67, i166_68, i166_69, i166_70, i166_e, c_in, c_isAhead, c_isSheet, c_areRight, bi_eq0, decide_true, decide_false, and_self, if_true, if_false, reduceCtorEq, not_true_eq_false, not_false_eq_true, mx_k0, mx_t0, fa_wide_le, Option.toList_some, Option.toList_none, List.nil_append, List.cons_append, true_and, and_true, eq_self, true_or, or_true, bi_01, mx_nl_i, mx_nl_r, mx_nl_n, mx_nl_f, mx_nl_d, lj0a, lj0b, lj1a, lj1b, lj2a, lj2b, lj3a, lj3b, lj4a, lj4b, lj5a, lj5b, lj6a, lj6b, lj7a, lj7b, lj8a, lj8b, lj9a, lj9b, lj10a, lj10b, lj11a, lj11b, lj12a, lj12b, lj13a, lj13b, lj14a, lj14b, lj15a, lj15b, lj16a, lj16b, lj17a, lj17b, lj18a, lj18b, lj19a, lj19b, ob_co r.o, c_f1 r, c_f2 r, c_f3 r, c_f4 r, c_f5 r, mo_gk r.o, mo_gv r.o, c_isSeller r.o r.g0, c_isSort r.o r.g0, ar_ik r.g0, ar_ia r.g0, ar_is r.g0, c4, c5, c1, c2, x0, i0, t0]
        exact k.dd r ok
      · rw [if_neg c2] at k
        simp only [i166_0, i166_1, i166_2, i166_3, i166_6, i166_9, i166_12, i166_13, i166_14, i166_15, i166_16, i166_19, i166_22, i166_25, i166_26, i166_27, i166_30, i166_33, i166_36, i166_39, i166_42, i166_45, i166_46, i166_47, i166_50, i166_51, i166_52, i166_55, i166_56, i166_57, i166_58, i166_59, i166_60, i166_61, i166_64, i166_65, i166_66, i166_67, i166_68, i166_69, i166_70, i166_e, c_in, c_isAhead, c_isSheet, c_areRight, bi_eq0, decide_true, decide_false, and_self, if_true, if_false, reduceCtorEq, not_true_eq_false, not_false_eq_true, mx_k0, mx_t0, fa_wide_le, Option.toList_some, Option.toList_none, List.nil_append, List.cons_append, true_and, and_true, eq_self, true_or, or_true, bi_01, mx_nl_i, mx_nl_r, mx_nl_n, mx_nl_f, mx_nl_d, lj0a, lj0b, lj1a, lj1b, lj2a, lj2b, lj3a, lj3b, lj4a, lj4b, lj5a, lj5b, lj6a, lj6b, lj7a, lj7b, lj8a, lj8b, lj9a, lj9b, lj10a, lj10b, lj11a, lj11b, lj12a, lj12b, lj13a, lj13b, lj14a, lj14b, lj15a, lj15b, lj16a, lj16b, lj17a, lj17b, lj18a, lj18b, lj19a, lj19b, ob_co r.o, c_f1 r, c_f2 r, c_f3 r, c_f4 r, c_f5 r, mo_gk r.o, mo_gv r.o, c_isSeller r.o r.g0, c_isSort r.o r.g0, ar_ik r.g0, ar_ia r.g0, ar_is r.g0, c4, c5, c1, c2]
        exact k.er r ok
/-- law -/
def sp_law (v : Nat → Int32) (A : Nat → Nat → Int32) (u a b c f : Int32) : PR := if 0 ≤ u ∧ u ≤ 1 then (G_ (A 0) u.toNatClampNeg a b c f, v, A) else er_ v A 1
theorem r_law (r : RW h v A) (ok : OK v A) {u a b c f : Int32} (k : KR h (sp_law v A u a b c f) Q) : ev_ X (d + 9) 149 [.ref 96, .int u, .int a, .int b, .int c, .int f] h Q := by
  unfold sp_law at k
  by_cases c1 : (0 ≤ u ∧ u ≤ 1)
  case neg =>
    rw [if_neg c1] at k
    simp only [i149_0, i149_1, i149_2, i149_3, i149_4, i149_7, i149_10, i149_11, i149_12, i149_13, i149_14, i149_16, i149_18, i149_21, i149_24, i149_25, i149_26, i149_29, i149_e, c_in, c_isAhead, c_isSheet, c_areRight, bi_eq0, decide_true, decide_false, and_self, if_true, if_false, reduceCtorEq, not_true_eq_false, not_false_eq_true, mx_k0, mx_t0, fa_wide_le, Option.toList_some, Option.toList_none, List.nil_append, List.cons_append, true_and, and_true, eq_self, true_or, or_true, bi_01, mx_nl_i, mx_nl_r, mx_nl_n, mx_nl_f, mx_nl_d, lj0a, lj0b, lj1a, lj1b, lj2a, lj2b, lj3a, lj3b, lj4a, lj4b, lj5a, lj5b, lj6a, lj6b, lj7a, lj7b, lj8a, lj8b, lj9a, lj9b, lj10a, lj10b, lj11a, lj11b, lj12a, lj12b, lj13a, lj13b, lj14a, lj14b, lj15a, lj15b, lj16a, lj16b, lj17a, lj17b, lj18a, lj18b, lj19a, lj19b, ob_co r.o, c_f1 r, c_f2 r, c_f3 r, c_f4 r, c_f5 r, mo_gk r.o, mo_gv r.o, c_isSeller r.o r.g0, c_isSort r.o r.g0, ar_ik r.g0, ar_ia r.g0, ar_is r.g0, c1]
    exact k.er r ok
  rw [if_pos c1] at k
  simp only [i149_0, i149_1, i149_2, i149_3, i149_4, i149_7, i149_10, i149_11, i149_12, i149_13, i149_14, i149_16, i149_18, i149_21, i149_24, i149_25, i149_26, i149_29, i149_e, c_in, c_isAhead, c_isSheet, c_areRight, bi_eq0, decide_true, decide_false, and_self, if_true, if_false, reduceCtorEq, not_true_eq_false, not_false_eq_true, mx_k0, mx_t0, fa_wide_le, Option.toList_some, Option.toList_none, List.nil_append, List.cons_append, true_and, and_true, eq_self, true_or, or_true, bi_01, mx_nl_i, mx_nl_r, mx_nl_n, mx_nl_f, mx_nl_d, lj0a, lj0b, lj1a, lj1b, lj2a, lj2b, lj3a, lj3b, lj4a, lj4b, lj5a, lj5b, lj6a, lj6b, lj7a, lj7b, lj8a, lj8b, lj9a, lj9b, lj10a, lj10b, lj11a, lj11b, lj12a, lj12b, lj13a, lj13b, lj14a, lj14b, lj15a, lj15b, lj16a, lj16b, lj17a, lj17b, lj18a, lj18b, lj19a, lj19b, ob_co r.o, c_f1 r, c_f2 r, c_f3 r, c_f4 r, c_f5 r, mo_gk r.o, mo_gv r.o, c_isSeller r.o r.g0, c_isSort r.o r.g0, ar_ik r.g0, ar_ia r.g0, ar_is r.g0, c1]
  obtain ⟨w, hw, rfl⟩ := nI_rng (k := 1) (by decide) c1
  rw [nI_clamp (by omega)] at k
  have ht : TO (A 0) w := by
    match w, hw with
    | 0, _ => exact ok.1.2.1
    | 1, _ => exact ok.1.2.2.1
    | n + 2, h => omega
  refine c_givesOf r (by omega) ht (fun h' A' r' fr sc => ?_)
  simp only [i149_0, i149_1, i149_2, i149_3, i149_4, i149_7, i149_10, i149_11, i149_12, i149_13, i149_14, i149_16, i149_18, i149_21, i149_24, i149_25, i149_26, i149_29, i149_e, c_in, c_isAhead, c_isSheet, c_areRight, bi_eq0, decide_true, decide_false, and_self, if_true, if_false, reduceCtorEq, not_true_eq_false, not_false_eq_true, mx_k0, mx_t0, fa_wide_le, Option.toList_some, Option.toList_none, List.nil_append, List.cons_append, true_and, and_true, eq_self, true_or, or_true, bi_01, mx_nl_i, mx_nl_r, mx_nl_n, mx_nl_f, mx_nl_d, lj0a, lj0b, lj1a, lj1b, lj2a, lj2b, lj3a, lj3b, lj4a, lj4b, lj5a, lj5b, lj6a, lj6b, lj7a, lj7b, lj8a, lj8b, lj9a, lj9b, lj10a, lj10b, lj11a, lj11b, lj12a, lj12b, lj13a, lj13b, lj14a, lj14b, lj15a, lj15b, lj16a, lj16b, lj17a, lj17b, lj18a, lj18b, lj19a, lj19b]
  exact k.sc ok r' fr sc
/-- seed -/
def sp_seed (v : Nat → Int32) (A : Nat → Nat → Int32) (a : Int32) : PR := (A 0 8, v, up2 A 0 (upd (A 0) 8 a))
theorem r_seed (r : RW h v A) (ok : OK v A) {a : Int32} (k : KR h (sp_seed v A a) Q) : ev_ X (d + 9) 188 [.ref 96, .int a] h Q := by
  unfold sp_seed at k
  simp only [i188_0, i188_1, i188_4, i188_6, i188_7, i188_8, i188_9, i188_12, i188_14, i188_15, i188_16, i188_17, i188_e, c_in, c_isAhead, c_isSheet, c_areRight, bi_eq0, decide_true, decide_false, and_self, if_true, if_false, reduceCtorEq, not_true_eq_false, not_false_eq_true, mx_k0, mx_t0, fa_wide_le, Option.toList_some, Option.toList_none, List.nil_append, List.cons_append, true_and, and_true, eq_self, true_or, or_true, bi_01, mx_nl_i, mx_nl_r, mx_nl_n, mx_nl_f, mx_nl_d, lj0a, lj0b, lj1a, lj1b, lj2a, lj2b, lj3a, lj3b, lj4a, lj4b, lj5a, lj5b, lj6a, lj6b, lj7a, lj7b, lj8a, lj8b, lj9a, lj9b, lj10a, lj10b, lj11a, lj11b, lj12a, lj12b, lj13a, lj13b, lj14a, lj14b, lj15a, lj15b, lj16a, lj16b, lj17a, lj17b, lj18a, lj18b, lj19a, lj19b, ob_co r.o, c_f1 r, c_f2 r, c_f3 r, c_f4 r, c_f5 r, mo_gk r.o, mo_gv r.o, c_isSeller r.o r.g0, c_isSort r.o r.g0, ar_ik r.g0, ar_ia r.g0, ar_is r.g0]
  exact k.dd r ok
/-- trace -/
def sp_trace (v : Nat → Int32) (A : Nat → Nat → Int32) (a : Int32) : PR := if 0 ≤ a ∧ a ≤ v 18 - 1 then (A 9 a.toNatClampNeg, v, A) else er_ v A 2
theorem r_trace (r : RW h v A) (ok : OK v A) {a : Int32} (k : KR h (sp_trace v A a) Q) : ev_ X (d + 9) 197 [.ref 96, .int a] h Q := by
  obtain ⟨n, hn, e⟩ := ok.2.2.2.2.1
  unfold sp_trace at k
  by_cases c1 : (0 ≤ a ∧ a ≤ v 18 - 1)
  case neg =>
    rw [if_neg c1] at k
    simp only [i197_0, i197_1, i197_2, i197_3, i197_4, i197_7, i197_8, i197_9, i197_10, i197_13, i197_16, i197_17, i197_20, i197_21, i197_22, i197_25, i197_26, i197_27, i197_30, i197_e, c_in, c_isAhead, c_isSheet, c_areRight, bi_eq0, decide_true, decide_false, and_self, if_true, if_false, reduceCtorEq, not_true_eq_false, not_false_eq_true, mx_k0, mx_t0, fa_wide_le, Option.toList_some, Option.toList_none, List.nil_append, List.cons_append, true_and, and_true, eq_self, true_or, or_true, bi_01, mx_nl_i, mx_nl_r, mx_nl_n, mx_nl_f, mx_nl_d, lj0a, lj0b, lj1a, lj1b, lj2a, lj2b, lj3a, lj3b, lj4a, lj4b, lj5a, lj5b, lj6a, lj6b, lj7a, lj7b, lj8a, lj8b, lj9a, lj9b, lj10a, lj10b, lj11a, lj11b, lj12a, lj12b, lj13a, lj13b, lj14a, lj14b, lj15a, lj15b, lj16a, lj16b, lj17a, lj17b, lj18a, lj18b, lj19a, lj19b, ob_co r.o, c_f1 r, c_f2 r, c_f3 r, c_f4 r, c_f5 r, mo_gk r.o, mo_gv r.o, c_isSeller r.o r.g0, c_isSort r.o r.g0, ar_ik r.g0, ar_ia r.g0, ar_is r.g0, c1]
    exact k.er r ok
  rw [if_pos c1] at k
  have c1' := c1
  rw [e] at c1'
  obtain ⟨s, hs, rfl⟩ := nI_sel (by omega) c1'
  rw [nI_clamp (by omega)] at k
  simp only [i197_0, i197_1, i197_2, i197_3, i197_4, i197_7, i197_8, i197_9, i197_10, i197_13, i197_16, i197_17, i197_20, i197_21, i197_22, i197_25, i197_26, i197_27, i197_30, i197_e, c_in, c_isAhead, c_isSheet, c_areRight, bi_eq0, decide_true, decide_false, and_self, if_true, if_false, reduceCtorEq, not_true_eq_false, not_false_eq_true, mx_k0, mx_t0, fa_wide_le, Option.toList_some, Option.toList_none, List.nil_append, List.cons_append, true_and, and_true, eq_self, true_or, or_true, bi_01, mx_nl_i, mx_nl_r, mx_nl_n, mx_nl_f, mx_nl_d, lj0a, lj0b, lj1a, lj1b, lj2a, lj2b, lj3a, lj3b, lj4a, lj4b, lj5a, lj5b, lj6a, lj6b, lj7a, lj7b, lj8a, lj8b, lj9a, lj9b, lj10a, lj10b, lj11a, lj11b, lj12a, lj12b, lj13a, lj13b, lj14a, lj14b, lj15a, lj15b, lj16a, lj16b, lj17a, lj17b, lj18a, lj18b, lj19a, lj19b, ob_co r.o, c_f1 r, c_f2 r, c_f3 r, c_f4 r, c_f5 r, mo_gk r.o, mo_gv r.o, c_isSeller r.o r.g0, c_isSort r.o r.g0, ar_ik r.g0, ar_ia r.g0, ar_is r.g0, c1, ar_ik r.g9, ar_ia r.g9, mx_inN (show s < 40 by omega) (by decide), nI_clamp (show s < 2 ^ 31 by omega)]
  exact k.same r ok
/-- told -/
def sp_told (v : Nat → Int32) (A : Nat → Nat → Int32) (a : Int32) : PR := if 1 ≤ a ∧ a ≤ 5 then (A 3 a.toNatClampNeg, v, A) else er_ v A 1
theorem r_told (r : RW h v A) (ok : OK v A) {a : Int32} (k : KR h (sp_told v A a) Q) : ev_ X (d + 9) 208 [.ref 96, .int a] h Q := by
  unfold sp_told at k
  by_cases c1 : (1 ≤ a ∧ a ≤ 5)
  case neg =>
    rw [if_neg c1] at k
    simp only [i208_0, i208_1, i208_2, i208_3, i208_6, i208_9, i208_12, i208_13, i208_16, i208_17, i208_18, i208_21, i208_22, i208_23, i208_26, i208_e, c_in, c_isAhead, c_isSheet, c_areRight, bi_eq0, decide_true, decide_false, and_self, if_true, if_false, reduceCtorEq, not_true_eq_false, not_false_eq_true, mx_k0, mx_t0, fa_wide_le, Option.toList_some, Option.toList_none, List.nil_append, List.cons_append, true_and, and_true, eq_self, true_or, or_true, bi_01, mx_nl_i, mx_nl_r, mx_nl_n, mx_nl_f, mx_nl_d, lj0a, lj0b, lj1a, lj1b, lj2a, lj2b, lj3a, lj3b, lj4a, lj4b, lj5a, lj5b, lj6a, lj6b, lj7a, lj7b, lj8a, lj8b, lj9a, lj9b, lj10a, lj10b, lj11a, lj11b, lj12a, lj12b, lj13a, lj13b, lj14a, lj14b, lj15a, lj15b, lj16a, lj16b, lj17a, lj17b, lj18a, lj18b, lj19a, lj19b, ob_co r.o, c_f1 r, c_f2 r, c_f3 r, c_f4 r, c_f5 r, mo_gk r.o, mo_gv r.o, c_isSeller r.o r.g0, c_isSort r.o r.g0, ar_ik r.g0, ar_ia r.g0, ar_is r.g0, c1]
    exact k.er r ok
  rw [if_pos c1] at k
  obtain ⟨s, hs, rfl⟩ := nI_rng (k := 5) (by decide) ⟨Int32.le_trans (by decide) c1.1, c1.2⟩
  rw [nI_clamp (by omega)] at k
  simp only [i208_0, i208_1, i208_2, i208_3, i208_6, i208_9, i208_12, i208_13, i208_16, i208_17, i208_18, i208_21, i208_22, i208_23, i208_26, i208_e, c_in, c_isAhead, c_isSheet, c_areRight, bi_eq0, decide_true, decide_false, and_self, if_true, if_false, reduceCtorEq, not_true_eq_false, not_false_eq_true, mx_k0, mx_t0, fa_wide_le, Option.toList_some, Option.toList_none, List.nil_append, List.cons_append, true_and, and_true, eq_self, true_or, or_true, bi_01, mx_nl_i, mx_nl_r, mx_nl_n, mx_nl_f, mx_nl_d, lj0a, lj0b, lj1a, lj1b, lj2a, lj2b, lj3a, lj3b, lj4a, lj4b, lj5a, lj5b, lj6a, lj6b, lj7a, lj7b, lj8a, lj8b, lj9a, lj9b, lj10a, lj10b, lj11a, lj11b, lj12a, lj12b, lj13a, lj13b, lj14a, lj14b, lj15a, lj15b, lj16a, lj16b, lj17a, lj17b, lj18a, lj18b, lj19a, lj19b, ob_co r.o, c_f1 r, c_f2 r, c_f3 r, c_f4 r, c_f5 r, mo_gk r.o, mo_gv r.o, c_isSeller r.o r.g0, c_isSort r.o r.g0, ar_ik r.g0, ar_ia r.g0, ar_is r.g0, c1, ar_ik r.g3, ar_ia r.g3, mx_inN (show s < 6 by omega) (by decide), nI_clamp (show s < 2 ^ 31 by omega)]
  exact k.same r ok
/-- tell -/
def sp_tell (v : Nat → Int32) (A : Nat → Nat → Int32) (a : Int32) : PR := if A 0 10 = 20 then er_ v A 4 else (A 0 10 + 1, v, up2 A 0 (upd (upd (A 0) (106 + (A 0 10).toNatClampNeg) a) 10 (A 0 10 + 1)))
theorem r_tell (r : RW h v A) (ok : OK v A) {a : Int32} (k : KR h (sp_tell v A a) Q) : ev_ X (d + 9) 204 [.ref 96, .int a] h Q := by
  obtain ⟨n, hn, e⟩ := ok.1.2.2.2.2.2.1
  unfold sp_tell at k
  by_cases c1 : A 0 10 = 20
  · rw [if_pos c1] at k
    simp only [i204_0, i204_1, i204_4, i204_6, i204_7, i204_9, i204_12, i204_13, i204_14, i204_17, i204_18, i204_19, i204_22, i204_24, i204_25, i204_28, i204_30, i204_31, i204_32, i204_33, i204_34, i204_35, i204_38, i204_40, i204_41, i204_42, i204_43, i204_44, i204_45, i204_46, i204_49, i204_51, i204_52, i204_e, c_in, c_isAhead, c_isSheet, c_areRight, bi_eq0, decide_true, decide_false, and_self, if_true, if_false, reduceCtorEq, not_true_eq_false, not_false_eq_true, mx_k0, mx_t0, fa_wide_le, Option.toList_some, Option.toList_none, List.nil_append, List.cons_append, true_and, and_true, eq_self, true_or, or_true, bi_01, mx_nl_i, mx_nl_r, mx_nl_n, mx_nl_f, mx_nl_d, lj0a, lj0b, lj1a, lj1b, lj2a, lj2b, lj3a, lj3b, lj4a, lj4b, lj5a, lj5b, lj6a, lj6b, lj7a, lj7b, lj8a, lj8b, lj9a, lj9b, lj10a, lj10b, lj11a, lj11b, lj12a, lj12b, lj13a, lj13b, lj14a, lj14b, lj15a, lj15b, lj16a, lj16b, lj17a, lj17b, lj18a, lj18b, lj19a, lj19b, ob_co r.o, c_f1 r, c_f2 r, c_f3 r, c_f4 r, c_f5 r, mo_gk r.o, mo_gv r.o, c_isSeller r.o r.g0, c_isSort r.o r.g0, ar_ik r.g0, ar_ia r.g0, ar_is r.g0, c1]
    exact k.er r ok
  rw [if_neg c1, e, nI_clamp (by omega)] at k
  have hlt : n < 20 := by
    have : ¬ n = 20 := fun e2 => c1 (by rw [e, e2]; rfl)
    omega
  have c1' : ¬ (nI n : Int32) = 20 := by rw [← e]; exact c1
  have g0 := r.g0
  have x0 : (106 + nI n : Int32) = nI (106 + n) := nI_add 106 n
  have gs : ∀ f, (h.set 97 (.inl (0, 280, .inl f)))[97]? = some (.inl (0, 280, .inl f)) := fun f => mx_gss (by rw [g0]; rfl)
  have os : ∀ f, (h.set 97 (.inl (0, 280, .inl f)))[96]? = some (.inr (12, mof v)) := fun f => by rw [List.getElem?_set_ne (by decide)]; exact r.o
  have u1 : upd (A 0) (106 + n) a 10 = nI n := by unfold upd; rw [if_neg (by omega), e]
  simp only [i204_0, i204_1, i204_4, i204_6, i204_7, i204_9, i204_12, i204_13, i204_14, i204_17, i204_18, i204_19, i204_22, i204_24, i204_25, i204_28, i204_30, i204_31, i204_32, i204_33, i204_34, i204_35, i204_38, i204_40, i204_41, i204_42, i204_43, i204_44, i204_45, i204_46, i204_49, i204_51, i204_52, i204_e, c_in, c_isAhead, c_isSheet, c_areRight, bi_eq0, decide_true, decide_false, and_self, if_true, if_false, reduceCtorEq, not_true_eq_false, not_false_eq_true, mx_k0, mx_t0, fa_wide_le, Option.toList_some, Option.toList_none, List.nil_append, List.cons_append, true_and, and_true, eq_self, true_or, or_true, bi_01, mx_nl_i, mx_nl_r, mx_nl_n, mx_nl_f, mx_nl_d, lj0a, lj0b, lj1a, lj1b, lj2a, lj2b, lj3a, lj3b, lj4a, lj4b, lj5a, lj5b, lj6a, lj6b, lj7a, lj7b, lj8a, lj8b, lj9a, lj9b, lj10a, lj10b, lj11a, lj11b, lj12a, lj12b, lj13a, lj13b, lj14a, lj14b, lj15a, lj15b, lj16a, lj16b, lj17a, lj17b, lj18a, lj18b, lj19a, lj19b, ob_co r.o, c_f1 r, c_f2 r, c_f3 r, c_f4 r, c_f5 r, mo_gk r.o, mo_gv r.o, c_isSeller r.o r.g0, c_isSort r.o r.g0, ar_ik r.g0, ar_ia r.g0, ar_is r.g0, e, c1', x0, mx_inN (show 106 + n < 280 by omega) (by decide), nI_clamp (show 106 + n < 2 ^ 31 by omega), mo_gk (os _), mo_gv (os _), ar_ik (gs _), ar_ia (gs _), ar_is (gs _), List.set_set, u1, pk_us]
  exact k.dd r ok
end R9
