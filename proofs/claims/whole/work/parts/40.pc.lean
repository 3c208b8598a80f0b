/-! the reference's calls: images, counts, sheets, the tape -/
section RA
variable {X : MXX} {d : Nat} {h : MXH} {Q : MXP} {v : Nat → Int32} {A : Nat → Nat → Int32}
theorem cpf_z {f g : Nat → Int32} (hf : Z_ f) (hg : Z_ g) : cpf f g 280 = f := by
  funext j
  unfold cpf
  split
  · rfl
  · rw [hf j (by omega), hg j (by omega)]
/-- image -/
def sp_image (v : Nat → Int32) (A : Nat → Nat → Int32) : PR := (v 3 + 1, upd v 3 (v 3 + 1), up2 A 2 (A 0))
theorem r_image (r : RW h v A) (ok : OK v A) (k : KR h (sp_image v A) Q) : ev_ X (d + 9) 202 [.ref 96] h Q := by
  unfold sp_image at k
  have r1 := r.s2 (f := A 0)
  have r2 := r1.setv (v' := upd v 3 (v 3 + 1))
  simp only [i202_0, i202_1, i202_4, i202_5, i202_8, i202_11, i202_12, i202_13, i202_16, i202_17, i202_18, i202_21, i202_22, i202_25, i202_e, c_in, c_isAhead, c_isSheet, c_areRight, bi_eq0, decide_true, decide_false, and_self, if_true, if_false, reduceCtorEq, not_true_eq_false, not_false_eq_true, mx_k0, mx_t0, fa_wide_le, Option.toList_some, Option.toList_none, List.nil_append, List.cons_append, true_and, and_true, eq_self, true_or, or_true, bi_01, mx_nl_i, mx_nl_r, mx_nl_n, mx_nl_f, mx_nl_d, lj0a, lj0b, lj1a, lj1b, lj2a, lj2b, lj3a, lj3b, lj4a, lj4b, lj5a, lj5b, lj6a, lj6b, lj7a, lj7b, lj8a, lj8b, lj9a, lj9b, lj10a, lj10b, lj11a, lj11b, lj12a, lj12b, lj13a, lj13b, lj14a, lj14b, lj15a, lj15b, lj16a, lj16b, lj17a, lj17b, lj18a, lj18b, lj19a, lj19b, ob_co r.o, c_f1 r, c_f2 r, c_f3 r, c_f4 r, c_f5 r, mo_gk r.o, mo_gv r.o, c_isSeller r.o r.g0, c_isSort r.o r.g0, ar_ik r.g0, ar_ia r.g0, ar_is r.g0, c_copies (show (99 : Nat) ≠ 97 by decide) r.g0 r.g2, cpf_z ok.1.2.2.2.1 ok.2.2.1, mo_gk r1.o, mo_gv r1.o, mo_pk3 r1.o, mo_pf3 r1.o, mo_gk r2.o, mo_gv r2.o, pk_us]
  refine k _ _ _ ⟨r2, (FR.set (by decide) (by decide)).tr (FR.set (by decide) (by decide)), rfl, rfl, SM.rf _, ?_⟩
  rw [up2_n (by decide)]
  exact ok.2.1
/-- restore -/
def sp_restore (v : Nat → Int32) (A : Nat → Nat → Int32) : PR := if v 3 = 0 then er_ v A 2 else (A 2 0, v, up2 A 0 (A 2))
theorem r_restore (r : RW h v A) (ok : OK v A) (k : KR h (sp_restore v A) Q) : ev_ X (d + 9) 203 [.ref 96] h Q := by
  unfold sp_restore at k
  by_cases c1 : v 3 = 0
  · rw [if_pos c1] at k
    simp only [i203_0, i203_1, i203_4, i203_7, i203_8, i203_9, i203_12, i203_13, i203_14, i203_17, i203_18, i203_21, i203_24, i203_25, i203_28, i203_29, i203_30, i203_e, c_in, c_isAhead, c_isSheet, c_areRight, bi_eq0, decide_true, decide_false, and_self, if_true, if_false, reduceCtorEq, not_true_eq_false, not_false_eq_true, mx_k0, mx_t0, fa_wide_le, Option.toList_some, Option.toList_none, List.nil_append, List.cons_append, true_and, and_true, eq_self, true_or, or_true, bi_01, mx_nl_i, mx_nl_r, mx_nl_n, mx_nl_f, mx_nl_d, lj0a, lj0b, lj1a, lj1b, lj2a, lj2b, lj3a, lj3b, lj4a, lj4b, lj5a, lj5b, lj6a, lj6b, lj7a, lj7b, lj8a, lj8b, lj9a, lj9b, lj10a, lj10b, lj11a, lj11b, lj12a, lj12b, lj13a, lj13b, lj14a, lj14b, lj15a, lj15b, lj16a, lj16b, lj17a, lj17b, lj18a, lj18b, lj19a, lj19b, ob_co r.o, c_f1 r, c_f2 r, c_f3 r, c_f4 r, c_f5 r, mo_gk r.o, mo_gv r.o, c_isSeller r.o r.g0, c_isSort r.o r.g0, ar_ik r.g0, ar_ia r.g0, ar_is r.g0, c1]
    exact k.er r ok
  · rw [if_neg c1] at k
    have r1 := r.s0 (f := A 2)
    have g1 := r1.g0
    rw [up2_s] at g1
    simp only [i203_0, i203_1, i203_4, i203_7, i203_8, i203_9, i203_12, i203_13, i203_14, i203_17, i203_18, i203_21, i203_24, i203_25, i203_28, i203_29, i203_30, i203_e, c_in, c_isAhead, c_isSheet, c_areRight, bi_eq0, decide_true, decide_false, and_self, if_true, if_false, reduceCtorEq, not_true_eq_false, not_false_eq_true, mx_k0, mx_t0, fa_wide_le, Option.toList_some, Option.toList_none, List.nil_append, List.cons_append, true_and, and_true, eq_self, true_or, or_true, bi_01, mx_nl_i, mx_nl_r, mx_nl_n, mx_nl_f, mx_nl_d, lj0a, lj0b, lj1a, lj1b, lj2a, lj2b, lj3a, lj3b, lj4a, lj4b, lj5a, lj5b, lj6a, lj6b, lj7a, lj7b, lj8a, lj8b, lj9a, lj9b, lj10a, lj10b, lj11a, lj11b, lj12a, lj12b, lj13a, lj13b, lj14a, lj14b, lj15a, lj15b, lj16a, lj16b, lj17a, lj17b, lj18a, lj18b, lj19a, lj19b, ob_co r.o, c_f1 r, c_f2 r, c_f3 r, c_f4 r, c_f5 r, mo_gk r.o, mo_gv r.o, c_isSeller r.o r.g0, c_isSort r.o r.g0, ar_ik r.g0, ar_ia r.g0, ar_is r.g0, c1, c_copies (show (97 : Nat) ≠ 99 by decide) r.g2 r.g0, cpf_z ok.2.2.1 ok.1.2.2.2.1, mo_gk r1.o, mo_gv r1.o, ar_ik g1, ar_ia g1]
    exact k.dd r ok
/-- count -/
def sm_ (m : Nat → Int32) (b w : Nat) (o : Nat) : Nat → Int32
  | 0 => 0
  | n + 1 => sm_ m b w o n + m (b + w * n + o)
theorem c_allW_l (r : RW h v A) {nb : Nat} (hnb : nb ≤ 8) (e2 : A 0 2 = nI nb) : ∀ n k, k + n = nb → ex_ X (d + 1) 206 4 [.ref 96, .int (sm_ (A 0) 70 4 3 k), .int (nI k)] [] h Q = Q (some (.int (sm_ (A 0) 70 4 3 nb))) h := by
  intro n
  induction n with
  | zero =>
    intro k hk
    have e : k = nb := by omega
    subst e
    rw [i206_4]
    simp only [i206_0, i206_1, i206_2, i206_3, i206_5, i206_6, i206_9, i206_10, i206_11, i206_14, i206_15, i206_16, i206_19, i206_20, i206_21, i206_24, i206_25, i206_26, i206_29, i206_32, i206_33, i206_e, c_in, c_isAhead, c_isSheet, c_areRight, bi_eq0, decide_true, decide_false, and_self, if_true, if_false, reduceCtorEq, not_true_eq_false, not_false_eq_true, mx_k0, mx_t0, fa_wide_le, Option.toList_some, Option.toList_none, List.nil_append, List.cons_append, true_and, and_true, eq_self, true_or, or_true, bi_01, mx_nl_i, mx_nl_r, mx_nl_n, mx_nl_f, mx_nl_d, lj0a, lj0b, lj1a, lj1b, lj2a, lj2b, lj3a, lj3b, lj4a, lj4b, lj5a, lj5b, lj6a, lj6b, lj7a, lj7b, lj8a, lj8b, lj9a, lj9b, lj10a, lj10b, lj11a, lj11b, lj12a, lj12b, lj13a, lj13b, lj14a, lj14b, lj15a, lj15b, lj16a, lj16b, lj17a, lj17b, lj18a, lj18b, lj19a, lj19b, ob_co r.o, c_f1 r, c_f2 r, c_f3 r, c_f4 r, c_f5 r, mo_gk r.o, mo_gv r.o, c_isSeller r.o r.g0, c_isSort r.o r.g0, ar_ik r.g0, ar_ia r.g0, ar_is r.g0, e2, Int32.le_refl]
  | succ n ih =>
    intro k hk
    have hc : ¬ ((nI nb : Int32) ≤ nI k) := by rw [nI_leI (by omega) (by omega)]; omega
    have ih := ih (k + 1) (by omega)
    simp only [sm_] at ih
    rw [i206_4]
    simp only [i206_0, i206_1, i206_2, i206_3, i206_5, i206_6, i206_9, i206_10, i206_11, i206_14, i206_15, i206_16, i206_19, i206_20, i206_21, i206_24, i206_25, i206_26, i206_29, i206_32, i206_33, i206_e, c_in, c_isAhead, c_isSheet, c_areRight, bi_eq0, decide_true, decide_false, and_self, if_true, if_false, reduceCtorEq, not_true_eq_false, not_false_eq_true, mx_k0, mx_t0, fa_wide_le, Option.toList_some, Option.toList_none, List.nil_append, List.cons_append, true_and, and_true, eq_self, true_or, or_true, bi_01, mx_nl_i, mx_nl_r, mx_nl_n, mx_nl_f, mx_nl_d, lj0a, lj0b, lj1a, lj1b, lj2a, lj2b, lj3a, lj3b, lj4a, lj4b, lj5a, lj5b, lj6a, lj6b, lj7a, lj7b, lj8a, lj8b, lj9a, lj9b, lj10a, lj10b, lj11a, lj11b, lj12a, lj12b, lj13a, lj13b, lj14a, lj14b, lj15a, lj15b, lj16a, lj16b, lj17a, lj17b, lj18a, lj18b, lj19a, lj19b, ob_co r.o, c_f1 r, c_f2 r, c_f3 r, c_f4 r, c_f5 r, mo_gk r.o, mo_gv r.o, c_isSeller r.o r.g0, c_isSort r.o r.g0, ar_ik r.g0, ar_ia r.g0, ar_is r.g0, e2, hc, c_so3 r.g0 (show k < 8 by omega), nI_1]
    exact ih
theorem c_allW (r : RW h v A) {nb : Nat} (hnb : nb ≤ 8) (e2 : A 0 2 = nI nb) : ev_ X (d + 1) 206 [.ref 96] h Q = Q (some (.int (sm_ (A 0) 70 4 3 nb))) h := by
  have h0 := c_allW_l (X := X) (d := d) (Q := Q) r hnb e2 nb 0 (by omega)
  simp only [i206_0, i206_1, i206_2, i206_3, i206_5, i206_6, i206_9, i206_10, i206_11, i206_14, i206_15, i206_16, i206_19, i206_20, i206_21, i206_24, i206_25, i206_26, i206_29, i206_32, i206_33, i206_e, true_and, and_true, eq_self, true_or, or_true, bi_01, mx_nl_i, mx_nl_r, mx_nl_n, mx_nl_f, mx_nl_d]
  exact h0
def sp_count (v : Nat → Int32) (A : Nat → Nat → Int32) (a : Int32) : PR := if a = 0 then (A 0 0, v, A) else if a = 1 then (A 0 1, v, A) else if a = 2 then (A 0 2, v, A) else if a = 3 then (A 0 3, v, A) else if a = 4 then (sm_ (A 0) 70 4 3 (A 0 2).toNatClampNeg, v, A) else if a = 5 then (A 0 9, v, A) else if a = 6 then (A 0 10, v, A) else if a = 7 then (v 18, v, A) else if a = 8 then (A 0 8, v, A) else er_ v A 1
theorem r_count (r : RW h v A) (ok : OK v A) {a : Int32} (k : KR h (sp_count v A a) Q) : ev_ X (d + 9) 207 [.ref 96, .int a] h Q := by
  obtain ⟨ns, nb, hns, hnb, e1, e2, e3⟩ := ok.1.1
  unfold sp_count at k
  simp only [i207_0, i207_53, i207_56, i207_57, i207_58, i207_60, i207_63, i207_64, i207_65, i207_67, i207_70, i207_71, i207_72, i207_74, i207_77, i207_78, i207_79, i207_81, i207_84, i207_86, i207_89, i207_91, i207_92, i207_94, i207_97, i207_99, i207_100, i207_102, i207_105, i207_107, i207_110, i207_112, i207_113, i207_115, i207_116, i207_119, i207_e, i207_1s, i207_1s]
  repeat' split at k
  · rename_i c0
    simp only [c0, i207_0, i207_52, i207_53, i207_56, i207_57, i207_58, i207_59, i207_60, i207_63, i207_64, i207_65, i207_66, i207_67, i207_70, i207_71, i207_72, i207_73, i207_74, i207_77, i207_78, i207_79, i207_80, i207_81, i207_84, i207_85, i207_86, i207_89, i207_91, i207_92, i207_93, i207_94, i207_97, i207_99, i207_100, i207_101, i207_102, i207_105, i207_106, i207_107, i207_110, i207_112, i207_113, i207_114, i207_115, i207_116, i207_119, i207_e, i207_1s, c_in, c_isAhead, c_isSheet, c_areRight, bi_eq0, decide_true, decide_false, and_self, if_true, if_false, reduceCtorEq, not_true_eq_false, not_false_eq_true, mx_k0, mx_t0, fa_wide_le, Option.toList_some, Option.toList_none, List.nil_append, List.cons_append, true_and, and_true, eq_self, true_or, or_true, bi_01, mx_nl_i, mx_nl_r, mx_nl_n, mx_nl_f, mx_nl_d, lj0a, lj0b, lj1a, lj1b, lj2a, lj2b, lj3a, lj3b, lj4a, lj4b, lj5a, lj5b, lj6a, lj6b, lj7a, lj7b, lj8a, lj8b, lj9a, lj9b, lj10a, lj10b, lj11a, lj11b, lj12a, lj12b, lj13a, lj13b, lj14a, lj14b, lj15a, lj15b, lj16a, lj16b, lj17a, lj17b, lj18a, lj18b, lj19a, lj19b, ob_co r.o, c_f1 r, c_f2 r, c_f3 r, c_f4 r, c_f5 r, mo_gk r.o, mo_gv r.o, c_isSeller r.o r.g0, c_isSort r.o r.g0, ar_ik r.g0, ar_ia r.g0, ar_is r.g0]
    exact k.same r ok
  · rename_i c0 c1
    simp only [c0, c1, if_neg, show ¬ ((1 : Int32) = 0) from by decide, i207_0, i207_52, i207_53, i207_56, i207_57, i207_58, i207_59, i207_60, i207_63, i207_64, i207_65, i207_66, i207_67, i207_70, i207_71, i207_72, i207_73, i207_74, i207_77, i207_78, i207_79, i207_80, i207_81, i207_84, i207_85, i207_86, i207_89, i207_91, i207_92, i207_93, i207_94, i207_97, i207_99, i207_100, i207_101, i207_102, i207_105, i207_106, i207_107, i207_110, i207_112, i207_113, i207_114, i207_115, i207_116, i207_119, i207_e, i207_1s, c_in, c_isAhead, c_isSheet, c_areRight, bi_eq0, decide_true, decide_false, and_self, if_true, if_false, reduceCtorEq, not_true_eq_false, not_false_eq_true, mx_k0, mx_t0, fa_wide_le, Option.toList_some, Option.toList_none, List.nil_append, List.cons_append, true_and, and_true, eq_self, true_or, or_true, bi_01, mx_nl_i, mx_nl_r, mx_nl_n, mx_nl_f, mx_nl_d, lj0a, lj0b, lj1a, lj1b, lj2a, lj2b, lj3a, lj3b, lj4a, lj4b, lj5a, lj5b, lj6a, lj6b, lj7a, lj7b, lj8a, lj8b, lj9a, lj9b, lj10a, lj10b, lj11a, lj11b, lj12a, lj12b, lj13a, lj13b, lj14a, lj14b, lj15a, lj15b, lj16a, lj16b, lj17a, lj17b, lj18a, lj18b, lj19a, lj19b, ob_co r.o, c_f1 r, c_f2 r, c_f3 r, c_f4 r, c_f5 r, mo_gk r.o, mo_gv r.o, c_isSeller r.o r.g0, c_isSort r.o r.g0, ar_ik r.g0, ar_ia r.g0, ar_is r.g0]
    exact k.same r ok
  · rename_i c0 c1 c2
    simp only [c0, c1, c2, if_neg, show ¬ ((2 : Int32) = 0) from by decide, show ¬ ((2 : Int32) = 1) from by decide, i207_0, i207_52, i207_53, i207_56, i207_57, i207_58, i207_59, i207_60, i207_63, i207_64, i207_65, i207_66, i207_67, i207_70, i207_71, i207_72, i207_73, i207_74, i207_77, i207_78, i207_79, i207_80, i207_81, i207_84, i207_85, i207_86, i207_89, i207_91, i207_92, i207_93, i207_94, i207_97, i207_99, i207_100, i207_101, i207_102, i207_105, i207_106, i207_107, i207_110, i207_112, i207_113, i207_114, i207_115, i207_116, i207_119, i207_e, i207_1s, c_in, c_isAhead, c_isSheet, c_areRight, bi_eq0, decide_true, decide_false, and_self, if_true, if_false, reduceCtorEq, not_true_eq_false, not_false_eq_true, mx_k0, mx_t0, fa_wide_le, Option.toList_some, Option.toList_none, List.nil_append, List.cons_append, true_and, and_true, eq_self, true_or, or_true, bi_01, mx_nl_i, mx_nl_r, mx_nl_n, mx_nl_f, mx_nl_d, lj0a, lj0b, lj1a, lj1b, lj2a, lj2b, lj3a, lj3b, lj4a, lj4b, lj5a, lj5b, lj6a, lj6b, lj7a, lj7b, lj8a, lj8b, lj9a, lj9b, lj10a, lj10b, lj11a, lj11b, lj12a, lj12b, lj13a, lj13b, lj14a, lj14b, lj15a, lj15b, lj16a, lj16b, lj17a, lj17b, lj18a, lj18b, lj19a, lj19b, ob_co r.o, c_f1 r, c_f2 r, c_f3 r, c_f4 r, c_f5 r, mo_gk r.o, mo_gv r.o, c_isSeller r.o r.g0, c_isSort r.o r.g0, ar_ik r.g0, ar_ia r.g0, ar_is r.g0]
    exact k.same r ok
  · rename_i c0 c1 c2 c3
    simp only [c3, show ¬ ((3 : Int32) = 0) from by decide, show ¬ ((3 : Int32) = 1) from by decide, show ¬ ((3 : Int32) = 2) from by decide, i207_0, i207_52, i207_53, i207_56, i207_57, i207_58, i207_59, i207_60, i207_63, i207_64, i207_65, i207_66, i207_67, i207_70, i207_71, i207_72, i207_73, i207_74, i207_77, i207_78, i207_79, i207_80, i207_81, i207_84, i207_85, i207_86, i207_89, i207_91, i207_92, i207_93, i207_94, i207_97, i207_99, i207_100, i207_101, i207_102, i207_105, i207_106, i207_107, i207_110, i207_112, i207_113, i207_114, i207_115, i207_116, i207_119, i207_e, i207_1s, c_in, c_isAhead, c_isSheet, c_areRight, bi_eq0, decide_true, decide_false, and_self, if_true, if_false, reduceCtorEq, not_true_eq_false, not_false_eq_true, mx_k0, mx_t0, fa_wide_le, Option.toList_some, Option.toList_none, List.nil_append, List.cons_append, true_and, and_true, eq_self, true_or, or_true, bi_01, mx_nl_i, mx_nl_r, mx_nl_n, mx_nl_f, mx_nl_d, lj0a, lj0b, lj1a, lj1b, lj2a, lj2b, lj3a, lj3b, lj4a, lj4b, lj5a, lj5b, lj6a, lj6b, lj7a, lj7b, lj8a, lj8b, lj9a, lj9b, lj10a, lj10b, lj11a, lj11b, lj12a, lj12b, lj13a, lj13b, lj14a, lj14b, lj15a, lj15b, lj16a, lj16b, lj17a, lj17b, lj18a, lj18b, lj19a, lj19b, ob_co r.o, c_f1 r, c_f2 r, c_f3 r, c_f4 r, c_f5 r, mo_gk r.o, mo_gv r.o, c_isSeller r.o r.g0, c_isSort r.o r.g0, ar_ik r.g0, ar_ia r.g0, ar_is r.g0]
    exact k.same r ok
  · rename_i c0 c1 c2 c3 c4
    rw [e2, nI_clamp (by omega)] at k
    simp only [if_neg c0, if_neg c1, if_neg c2, if_neg c3, if_pos c4, i207_0, i207_52, i207_53, i207_56, i207_57, i207_58, i207_59, i207_60, i207_63, i207_64, i207_65, i207_66, i207_67, i207_70, i207_71, i207_72, i207_73, i207_74, i207_77, i207_78, i207_79, i207_80, i207_81, i207_84, i207_85, i207_86, i207_89, i207_91, i207_92, i207_93, i207_94, i207_97, i207_99, i207_100, i207_101, i207_102, i207_105, i207_106, i207_107, i207_110, i207_112, i207_113, i207_114, i207_115, i207_116, i207_119, i207_e, i207_1s, c_in, c_isAhead, c_isSheet, c_areRight, bi_eq0, decide_true, decide_false, and_self, if_true, if_false, reduceCtorEq, not_true_eq_false, not_false_eq_true, mx_k0, mx_t0, fa_wide_le, Option.toList_some, Option.toList_none, List.nil_append, List.cons_append, true_and, and_true, eq_self, true_or, or_true, bi_01, mx_nl_i, mx_nl_r, mx_nl_n, mx_nl_f, mx_nl_d, lj0a, lj0b, lj1a, lj1b, lj2a, lj2b, lj3a, lj3b, lj4a, lj4b, lj5a, lj5b, lj6a, lj6b, lj7a, lj7b, lj8a, lj8b, lj9a, lj9b, lj10a, lj10b, lj11a, lj11b, lj12a, lj12b, lj13a, lj13b, lj14a, lj14b, lj15a, lj15b, lj16a, lj16b, lj17a, lj17b, lj18a, lj18b, lj19a, lj19b, ob_co r.o, c_f1 r, c_f2 r, c_f3 r, c_f4 r, c_f5 r, mo_gk r.o, mo_gv r.o, c_isSeller r.o r.g0, c_isSort r.o r.g0, ar_ik r.g0, ar_ia r.g0, ar_is r.g0, c_allW r hnb e2]
    exact k.same r ok
  · rename_i c0 c1 c2 c3 c4 c5
    simp only [if_neg c0, if_neg c1, if_neg c2, if_neg c3, if_neg c4, if_pos c5, i207_0, i207_52, i207_53, i207_56, i207_57, i207_58, i207_59, i207_60, i207_63, i207_64, i207_65, i207_66, i207_67, i207_70, i207_71, i207_72, i207_73, i207_74, i207_77, i207_78, i207_79, i207_80, i207_81, i207_84, i207_85, i207_86, i207_89, i207_91, i207_92, i207_93, i207_94, i207_97, i207_99, i207_100, i207_101, i207_102, i207_105, i207_106, i207_107, i207_110, i207_112, i207_113, i207_114, i207_115, i207_116, i207_119, i207_e, i207_1s, c_in, c_isAhead, c_isSheet, c_areRight, bi_eq0, decide_true, decide_false, and_self, if_true, if_false, reduceCtorEq, not_true_eq_false, not_false_eq_true, mx_k0, mx_t0, fa_wide_le, Option.toList_some, Option.toList_none, List.nil_append, List.cons_append, true_and, and_true, eq_self, true_or, or_true, bi_01, mx_nl_i, mx_nl_r, mx_nl_n, mx_nl_f, mx_nl_d, lj0a, lj0b, lj1a, lj1b, lj2a, lj2b, lj3a, lj3b, lj4a, lj4b, lj5a, lj5b, lj6a, lj6b, lj7a, lj7b, lj8a, lj8b, lj9a, lj9b, lj10a, lj10b, lj11a, lj11b, lj12a, lj12b, lj13a, lj13b, lj14a, lj14b, lj15a, lj15b, lj16a, lj16b, lj17a, lj17b, lj18a, lj18b, lj19a, lj19b, ob_co r.o, c_f1 r, c_f2 r, c_f3 r, c_f4 r, c_f5 r, mo_gk r.o, mo_gv r.o, c_isSeller r.o r.g0, c_isSort r.o r.g0, ar_ik r.g0, ar_ia r.g0, ar_is r.g0]
    exact k.same r ok
  · rename_i c0 c1 c2 c3 c4 c5 c6
    simp only [if_neg c0, if_neg c1, if_neg c2, if_neg c3, if_neg c4, if_neg c5, if_pos c6, i207_0, i207_52, i207_53, i207_56, i207_57, i207_58, i207_59, i207_60, i207_63, i207_64, i207_65, i207_66, i207_67, i207_70, i207_71, i207_72, i207_73, i207_74, i207_77, i207_78, i207_79, i207_80, i207_81, i207_84, i207_85, i207_86, i207_89, i207_91, i207_92, i207_93, i207_94, i207_97, i207_99, i207_100, i207_101, i207_102, i207_105, i207_106, i207_107, i207_110, i207_112, i207_113, i207_114, i207_115, i207_116, i207_119, i207_e, i207_1s, c_in, c_isAhead, c_isSheet, c_areRight, bi_eq0, decide_true, decide_false, and_self, if_true, if_false, reduceCtorEq, not_true_eq_false, not_false_eq_true, mx_k0, mx_t0, fa_wide_le, Option.toList_some, Option.toList_none, List.nil_append, List.cons_append, true_and, and_true, eq_self, true_or, or_true, bi_01, mx_nl_i, mx_nl_r, mx_nl_n, mx_nl_f, mx_nl_d, lj0a, lj0b, lj1a, lj1b, lj2a, lj2b, lj3a, lj3b, lj4a, lj4b, lj5a, lj5b, lj6a, lj6b, lj7a, lj7b, lj8a, lj8b, lj9a, lj9b, lj10a, lj10b, lj11a, lj11b, lj12a, lj12b, lj13a, lj13b, lj14a, lj14b, lj15a, lj15b, lj16a, lj16b, lj17a, lj17b, lj18a, lj18b, lj19a, lj19b, ob_co r.o, c_f1 r, c_f2 r, c_f3 r, c_f4 r, c_f5 r, mo_gk r.o, mo_gv r.o, c_isSeller r.o r.g0, c_isSort r.o r.g0, ar_ik r.g0, ar_ia r.g0, ar_is r.g0]
    exact k.same r ok
  · rename_i c0 c1 c2 c3 c4 c5 c6 c7
    simp only [if_neg c0, if_neg c1, if_neg c2, if_neg c3, if_neg c4, if_neg c5, if_neg c6, if_pos c7, i207_0, i207_52, i207_53, i207_56, i207_57, i207_58, i207_59, i207_60, i207_63, i207_64, i207_65, i207_66, i207_67, i207_70, i207_71, i207_72, i207_73, i207_74, i207_77, i207_78, i207_79, i207_80, i207_81, i207_84, i207_85, i207_86, i207_89, i207_91, i207_92, i207_93, i207_94, i207_97, i207_99, i207_100, i207_101, i207_102, i207_105, i207_106, i207_107, i207_110, i207_112, i207_113, i207_114, i207_115, i207_116, i207_119, i207_e, i207_1s, c_in, c_isAhead, c_isSheet, c_areRight, bi_eq0, decide_true, decide_false, and_self, if_true, if_false, reduceCtorEq, not_true_eq_false, not_false_eq_true, mx_k0, mx_t0, fa_wide_le, Option.toList_some, Option.toList_none, List.nil_append, List.cons_append, true_and, and_true, eq_self, true_or, or_true, bi_01, mx_nl_i, mx_nl_r, mx_nl_n, mx_nl_f, mx_nl_d, lj0a, lj0b, lj1a, lj1b, lj2a, lj2b, lj3a, lj3b, lj4a, lj4b, lj5a, lj5b, lj6a, lj6b, lj7a, lj7b, lj8a, lj8b, lj9a, lj9b, lj10a, lj10b, lj11a, lj11b, lj12a, lj12b, lj13a, lj13b, lj14a, lj14b, lj15a, lj15b, lj16a, lj16b, lj17a, lj17b, lj18a, lj18b, lj19a, lj19b, ob_co r.o, c_f1 r, c_f2 r, c_f3 r, c_f4 r, c_f5 r, mo_gk r.o, mo_gv r.o, c_isSeller r.o r.g0, c_isSort r.o r.g0, ar_ik r.g0, ar_ia r.g0, ar_is r.g0]
    exact k.same r ok
  · rename_i c0 c1 c2 c3 c4 c5 c6 c7 c8
    simp only [if_neg c0, if_neg c1, if_neg c2, if_neg c3, if_neg c4, if_neg c5, if_neg c6, if_neg c7, if_pos c8, i207_0, i207_52, i207_53, i207_56, i207_57, i207_58, i207_59, i207_60, i207_63, i207_64, i207_65, i207_66, i207_67, i207_70, i207_71, i207_72, i207_73, i207_74, i207_77, i207_78, i207_79, i207_80, i207_81, i207_84, i207_85, i207_86, i207_89, i207_91, i207_92, i207_93, i207_94, i207_97, i207_99, i207_100, i207_101, i207_102, i207_105, i207_106, i207_107, i207_110, i207_112, i207_113, i207_114, i207_115, i207_116, i207_119, i207_e, i207_1s, c_in, c_isAhead, c_isSheet, c_areRight, bi_eq0, decide_true, decide_false, and_self, if_true, if_false, reduceCtorEq, not_true_eq_false, not_false_eq_true, mx_k0, mx_t0, fa_wide_le, Option.toList_some, Option.toList_none, List.nil_append, List.cons_append, true_and, and_true, eq_self, true_or, or_true, bi_01, mx_nl_i, mx_nl_r, mx_nl_n, mx_nl_f, mx_nl_d, lj0a, lj0b, lj1a, lj1b, lj2a, lj2b, lj3a, lj3b, lj4a, lj4b, lj5a, lj5b, lj6a, lj6b, lj7a, lj7b, lj8a, lj8b, lj9a, lj9b, lj10a, lj10b, lj11a, lj11b, lj12a, lj12b, lj13a, lj13b, lj14a, lj14b, lj15a, lj15b, lj16a, lj16b, lj17a, lj17b, lj18a, lj18b, lj19a, lj19b, ob_co r.o, c_f1 r, c_f2 r, c_f3 r, c_f4 r, c_f5 r, mo_gk r.o, mo_gv r.o, c_isSeller r.o r.g0, c_isSort r.o r.g0, ar_ik r.g0, ar_ia r.g0, ar_is r.g0]
    exact k.same r ok
  · rename_i c0 c1 c2 c3 c4 c5 c6 c7 c8
    simp only [if_neg c0, if_neg c1, if_neg c2, if_neg c3, if_neg c4, if_neg c5, if_neg c6, if_neg c7, if_neg c8, i207_0, i207_52, i207_53, i207_56, i207_57, i207_58, i207_59, i207_60, i207_63, i207_64, i207_65, i207_66, i207_67, i207_70, i207_71, i207_72, i207_73, i207_74, i207_77, i207_78, i207_79, i207_80, i207_81, i207_84, i207_85, i207_86, i207_89, i207_91, i207_92, i207_93, i207_94, i207_97, i207_99, i207_100, i207_101, i207_102, i207_105, i207_106, i207_107, i207_110, i207_112, i207_113, i207_114, i207_115, i207_116, i207_119, i207_e, i207_1s, c_in, c_isAhead, c_isSheet, c_areRight, bi_eq0, decide_true, decide_false, and_self, if_true, if_false, reduceCtorEq, not_true_eq_false, not_false_eq_true, mx_k0, mx_t0, fa_wide_le, Option.toList_some, Option.toList_none, List.nil_append, List.cons_append, true_and, and_true, eq_self, true_or, or_true, bi_01, mx_nl_i, mx_nl_r, mx_nl_n, mx_nl_f, mx_nl_d, lj0a, lj0b, lj1a, lj1b, lj2a, lj2b, lj3a, lj3b, lj4a, lj4b, lj5a, lj5b, lj6a, lj6b, lj7a, lj7b, lj8a, lj8b, lj9a, lj9b, lj10a, lj10b, lj11a, lj11b, lj12a, lj12b, lj13a, lj13b, lj14a, lj14b, lj15a, lj15b, lj16a, lj16b, lj17a, lj17b, lj18a, lj18b, lj19a, lj19b, ob_co r.o, c_f1 r, c_f2 r, c_f3 r, c_f4 r, c_f5 r, mo_gk r.o, mo_gv r.o, c_isSeller r.o r.g0, c_isSort r.o r.g0, ar_ik r.g0, ar_ia r.g0, ar_is r.g0]
    exact k.er r ok
/-- first -/
def sp_first (v : Nat → Int32) (A : Nat → Nat → Int32) (a : Int32) : PR := if 0 ≤ a ∧ a ≤ A 0 2 - 1 then (if ch_ (A 0) (fun _ => 0) (A 0 1).toNatClampNeg < 0 then er_ v A 2 else (ch_ (A 0) (fun _ => 0) (A 0 1).toNatClampNeg, v, A)) else er_ v A 1
theorem c_first_l (fin : ∀ (h' : MXH) (A' : Nat → Nat → Int32) (w1 w2 : Value), RW h' v A' → FR h h' → S2 0 A A' → A' 0 = A 0 → (∀ j, j < 6 → A' 7 j = 0) → mx_nl w1 = true → ex_ X (d + 9) 187 35 [.ref 96, w1, w2] [] h' Q) :
    ∀ (n k : Nat) (h' : MXH) (A' : Nat → Nat → Int32) (w1 : Value), k + n = 6 → RW h' v A' → FR h h' → S2 0 A A' → A' 0 = A 0 → (∀ j, j < k → A' 7 j = 0) → mx_nl w1 = true → ex_ X (d + 9) 187 16 [.ref 96, w1, .int (nI k)] [] h' Q := by
  intro n
  induction n with
  | zero =>
    intro k h' A' w1 hk r fr s2 ea hz hw
    have e : k = 6 := by omega
    subst e
    rw [i187_16]
    simp only [i187_0, i187_1, i187_2, i187_5, i187_8, i187_9, i187_10, i187_13, i187_14, i187_15, i187_17, i187_19, i187_22, i187_23, i187_26, i187_27, i187_28, i187_29, i187_32, i187_36, i187_37, i187_40, i187_43, i187_44, i187_45, i187_48, i187_49, i187_50, i187_53, i187_56, i187_57, i187_e, show ((6 : Int32) ≤ nI 6) from by decide, if_true]
    exact fin h' A' _ _ r fr s2 ea hz hw
  | succ n ih =>
    intro k h' A' w1 hk r fr s2 ea hz hw
    have hc : ¬ ((6 : Int32) ≤ nI k) := by
      show ¬ (nI 6 ≤ nI k)
      rw [nI_leI (by decide) (by omega)]; omega
    have r1 := r.s7 (f := upd (A' 7) k 0)
    rw [i187_16]
    simp only [i187_0, i187_1, i187_2, i187_5, i187_8, i187_9, i187_10, i187_13, i187_14, i187_15, i187_17, i187_19, i187_22, i187_23, i187_26, i187_27, i187_28, i187_29, i187_32, i187_36, i187_37, i187_40, i187_43, i187_44, i187_45, i187_48, i187_49, i187_50, i187_53, i187_56, i187_57, i187_e, hc, hw, if_false, mo_gk r.o, mo_gv r.o, br_bk r.g7, br_bs r.g7, mx_inN (show k < 6 by omega) (by decide), nI_clamp (show k < 2 ^ 31 by omega), vnb0, nI_1, true_and, and_true, eq_self, true_or, or_true, bi_01, mx_nl_i, mx_nl_r, mx_nl_n, mx_nl_f, mx_nl_d]
    refine ih (k + 1) _ _ _ (by omega) r1 (fr.tr (FR.set (by decide) (by decide))) (s2.tr S2.up7) (by rw [up2_n (by omega)]; exact ea) (fun j hj => ?_) hw
    rw [up2_s]
    unfold upd
    split
    · rfl
    · exact hz j (by omega)
theorem r_first (r : RW h v A) (ok : OK v A) {a : Int32} (k : KR h (sp_first v A a) Q) : ev_ X (d + 9) 187 [.ref 96, .int a] h Q := by
  obtain ⟨ns, nb, hns, hnb, e1, e2, e3⟩ := ok.1.1
  unfold sp_first at k
  by_cases c1 : 0 ≤ a ∧ a ≤ A 0 2 - 1
  case neg =>
    rw [if_neg c1] at k
    simp only [i187_0, i187_1, i187_2, i187_5, i187_8, i187_9, i187_10, i187_13, i187_14, i187_15, i187_16, i187_17, i187_19, i187_22, i187_23, i187_26, i187_27, i187_28, i187_29, i187_32, i187_35, i187_36, i187_37, i187_40, i187_43, i187_44, i187_45, i187_48, i187_49, i187_50, i187_53, i187_56, i187_57, i187_e, c_in, c_isAhead, c_isSheet, c_areRight, bi_eq0, decide_true, decide_false, and_self, if_true, if_false, reduceCtorEq, not_true_eq_false, not_false_eq_true, mx_k0, mx_t0, fa_wide_le, Option.toList_some, Option.toList_none, List.nil_append, List.cons_append, true_and, and_true, eq_self, true_or, or_true, bi_01, mx_nl_i, mx_nl_r, mx_nl_n, mx_nl_f, mx_nl_d, lj0a, lj0b, lj1a, lj1b, lj2a, lj2b, lj3a, lj3b, lj4a, lj4b, lj5a, lj5b, lj6a, lj6b, lj7a, lj7b, lj8a, lj8b, lj9a, lj9b, lj10a, lj10b, lj11a, lj11b, lj12a, lj12b, lj13a, lj13b, lj14a, lj14b, lj15a, lj15b, lj16a, lj16b, lj17a, lj17b, lj18a, lj18b, lj19a, lj19b, ob_co r.o, c_f1 r, c_f2 r, c_f3 r, c_f4 r, c_f5 r, mo_gk r.o, mo_gv r.o, c_isSeller r.o r.g0, c_isSort r.o r.g0, ar_ik r.g0, ar_ia r.g0, ar_is r.g0, c1]
    exact k.er r ok
  rw [if_pos c1, e1, nI_clamp (by omega)] at k
  simp only [i187_0, i187_1, i187_2, i187_5, i187_8, i187_9, i187_10, i187_13, i187_14, i187_15, i187_17, i187_19, i187_22, i187_23, i187_26, i187_27, i187_28, i187_29, i187_32, i187_35, i187_36, i187_37, i187_40, i187_43, i187_44, i187_45, i187_48, i187_49, i187_50, i187_53, i187_56, i187_57, i187_e, c_in, c_isAhead, c_isSheet, c_areRight, bi_eq0, decide_true, decide_false, and_self, if_true, if_false, reduceCtorEq, not_true_eq_false, not_false_eq_true, mx_k0, mx_t0, fa_wide_le, Option.toList_some, Option.toList_none, List.nil_append, List.cons_append, true_and, and_true, eq_self, true_or, or_true, bi_01, mx_nl_i, mx_nl_r, mx_nl_n, mx_nl_f, mx_nl_d, lj0a, lj0b, lj1a, lj1b, lj2a, lj2b, lj3a, lj3b, lj4a, lj4b, lj5a, lj5b, lj6a, lj6b, lj7a, lj7b, lj8a, lj8b, lj9a, lj9b, lj10a, lj10b, lj11a, lj11b, lj12a, lj12b, lj13a, lj13b, lj14a, lj14b, lj15a, lj15b, lj16a, lj16b, lj17a, lj17b, lj18a, lj18b, lj19a, lj19b, ob_co r.o, c_f1 r, c_f2 r, c_f3 r, c_f4 r, c_f5 r, mo_gk r.o, mo_gv r.o, c_isSeller r.o r.g0, c_isSort r.o r.g0, ar_ik r.g0, ar_ia r.g0, ar_is r.g0, c1]
  refine c_first_l (A := A) (h := h) ?_ 6 0 h A _ (by omega) r (FR.rf h) (fun _ _ _ _ _ => rfl) rfl (fun j hj => by omega) rfl
  intro h1 A1 w1 w2 r1 fr1 s1 ea1 hz1 hw
  have hch : ch_ (A1 0) (A1 7) ns = ch_ (A 0) (fun _ => 0) ns := by rw [ea1]; exact ch_cg (fun j hj => hz1 j hj) ns hns
  have sm : SM A A1 := fun j hj => by
    by_cases e : j = 0
    · subst e; exact ea1
    · exact s1 j e (by omega) (by omega) (by omega)
  have z1 : Z_ (A1 1) := by rw [s1 1 (by decide) (by decide) (by decide) (by decide)]; exact ok.2.1
  simp only [i187_0, i187_1, i187_2, i187_5, i187_8, i187_9, i187_10, i187_13, i187_14, i187_15, i187_17, i187_19, i187_22, i187_23, i187_26, i187_27, i187_28, i187_29, i187_32, i187_35, i187_36, i187_37, i187_40, i187_43, i187_44, i187_45, i187_48, i187_49, i187_50, i187_53, i187_56, i187_57, i187_e, c_in, c_isAhead, c_isSheet, c_areRight, bi_eq0, decide_true, decide_false, and_self, if_true, if_false, reduceCtorEq, not_true_eq_false, not_false_eq_true, mx_k0, mx_t0, fa_wide_le, Option.toList_some, Option.toList_none, List.nil_append, List.cons_append, true_and, and_true, eq_self, true_or, or_true, bi_01, mx_nl_i, mx_nl_r, mx_nl_n, mx_nl_f, mx_nl_d, lj0a, lj0b, lj1a, lj1b, lj2a, lj2b, lj3a, lj3b, lj4a, lj4b, lj5a, lj5b, lj6a, lj6b, lj7a, lj7b, lj8a, lj8b, lj9a, lj9b, lj10a, lj10b, lj11a, lj11b, lj12a, lj12b, lj13a, lj13b, lj14a, lj14b, lj15a, lj15b, lj16a, lj16b, lj17a, lj17b, lj18a, lj18b, lj19a, lj19b, mo_gk r1.o, mo_gv r1.o, ob_co r1.o, c_cheapest r1 (ai := 0) (by decide) hns (by rw [ea1]; exact e1), hch, hw, c_f2 r1]
  have hin := ch_in (A 0) (fun _ => 0) ns hns
  by_cases c2 : ch_ (A 0) (fun _ => 0) ns < 0
  · rw [if_pos c2] at k
    rw [if_neg (Int32.not_le.mpr c2)]
    exact k.er' r1 fr1 sm z1
  · rw [if_neg c2] at k
    rw [if_pos (Int32.not_lt.mp c2)]
    exact k h1 v A1 ⟨r1, fr1, rfl, rfl, sm, z1⟩
end RA
