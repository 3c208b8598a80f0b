/-! the reference's calls: the tape, days -/
section RD
variable {X : MXX} {d : Nat} {h : MXH} {Q : MXP} {v : Nat → Int32} {A : Nat → Nat → Int32}
def byt (w : Int64) (k : Nat) : Int32 := ((w >>> ((8 * nI k : Int32).toInt64 &&& 63)) &&& 255).toInt32
def fd_ (w : Int64) (m : Nat → Int32) (tp : Nat) : Nat → Nat → Int32
  | 0 => m
  | k + 1 => upd (upd (fd_ w m tp k) (226 + (tp + k)) (byt w k)) 9 (nI (tp + k + 1))
theorem fd_9 {w : Int64} {m : Nat → Int32} {tp : Nat} (e : m 9 = nI tp) : ∀ k, fd_ w m tp k 9 = nI (tp + k)
  | 0 => e
  | k + 1 => by unfold fd_; rw [pk_us]; rfl
def sp_feed (v : Nat → Int32) (A : Nat → Nat → Int32) (w : Int64) (n : Int32) : PR := if 1 ≤ n ∧ n ≤ 8 then (if A 0 9 + n ≤ 50 then (A 0 9 + n, v, up2 A 0 (fd_ w (A 0) (A 0 9).toNatClampNeg n.toNatClampNeg)) else er_ v A 4) else er_ v A 1
theorem c_feed_l (r : RW h v A) {w : Int64} {w2 : Value} {tp N : Nat} (e : A 0 9 = nI tp) (hN : tp + N ≤ 50) : ∀ n k, k + n = N → ex_ X (d + 9) 146 41 [.ref 96, .long w, w2, .int (nI N), .int (nI k)] [] (h.set 97 (.inl (0, 280, .inl (fd_ w (A 0) tp k)))) Q = Q (some (.int (nI (tp + N)))) (h.set 97 (.inl (0, 280, .inl (fd_ w (A 0) tp N)))) := by
  intro n
  induction n with
  | zero =>
    intro k hk
    have e1 : k = N := by omega
    subst e1
    have r1 := r.s0 (f := fd_ w (A 0) tp k)
    have g1 := r1.g0
    rw [up2_s] at g1
    rw [i146_41]
    simp only [i146_0, i146_1, i146_2, i146_3, i146_6, i146_9, i146_12, i146_13, i146_14, i146_17, i146_18, i146_19, i146_22, i146_24, i146_25, i146_26, i146_27, i146_29, i146_32, i146_33, i146_34, i146_37, i146_38, i146_39, i146_43, i146_44, i146_47, i146_48, i146_51, i146_54, i146_55, i146_58, i146_60, i146_61, i146_62, i146_63, i146_65, i146_67, i146_68, i146_69, i146_72, i146_73, i146_74, i146_75, i146_76, i146_79, i146_81, i146_82, i146_83, i146_84, i146_85, i146_86, i146_89, i146_92, i146_93, i146_96, i146_98, i146_99, i146_e, c_in, c_isAhead, c_isSheet, c_areRight, bi_eq0, decide_true, decide_false, and_self, if_true, if_false, reduceCtorEq, not_true_eq_false, not_false_eq_true, mx_k0, mx_t0, fa_wide_le, Option.toList_some, Option.toList_none, List.nil_append, List.cons_append, true_and, and_true, eq_self, true_or, or_true, bi_01, mx_nl_i, mx_nl_r, mx_nl_n, mx_nl_f, mx_nl_d, lj0a, lj0b, lj1a, lj1b, lj2a, lj2b, lj3a, lj3b, lj4a, lj4b, lj5a, lj5b, lj6a, lj6b, lj7a, lj7b, lj8a, lj8b, lj9a, lj9b, lj10a, lj10b, lj11a, lj11b, lj12a, lj12b, lj13a, lj13b, lj14a, lj14b, lj15a, lj15b, lj16a, lj16b, lj17a, lj17b, lj18a, lj18b, lj19a, lj19b, Int32.le_refl, mo_gk r1.o, mo_gv r1.o, ar_ik g1, ar_ia g1, fd_9 e]
  | succ n ih =>
    intro k hk
    have hc : ¬ ((nI N : Int32) ≤ nI k) := by rw [nI_leI (by omega) (by omega)]; omega
    have r1 := r.s0 (f := fd_ w (A 0) tp k)
    have g1 := r1.g0
    rw [up2_s] at g1
    have r2 := r.s0 (f := upd (fd_ w (A 0) tp k) (226 + (tp + k)) (byt w k))
    have g2 := r2.g0
    rw [up2_s] at g2
    have x0 : (226 + nI (tp + k) : Int32) = nI (226 + (tp + k)) := nI_add 226 _
    have u9 : upd (fd_ w (A 0) tp k) (226 + (tp + k)) (byt w k) 9 = nI (tp + k) := by unfold upd; rw [if_neg (by omega), fd_9 e]
    have eb : ((w >>> ((8 * nI k : Int32).toInt64 &&& 63)) &&& 255).toInt32 = byt w k := rfl
    rw [i146_41]
    simp only [i146_0, i146_1, i146_2, i146_3, i146_6, i146_9, i146_12, i146_13, i146_14, i146_17, i146_18, i146_19, i146_22, i146_24, i146_25, i146_26, i146_27, i146_29, i146_32, i146_33, i146_34, i146_37, i146_38, i146_39, i146_43, i146_44, i146_47, i146_48, i146_51, i146_54, i146_55, i146_58, i146_60, i146_61, i146_62, i146_63, i146_65, i146_67, i146_68, i146_69, i146_72, i146_73, i146_74, i146_75, i146_76, i146_79, i146_81, i146_82, i146_83, i146_84, i146_85, i146_86, i146_89, i146_92, i146_93, i146_96, i146_98, i146_99, i146_e, c_in, c_isAhead, c_isSheet, c_areRight, bi_eq0, decide_true, decide_false, and_self, if_true, if_false, reduceCtorEq, not_true_eq_false, not_false_eq_true, mx_k0, mx_t0, fa_wide_le, Option.toList_some, Option.toList_none, List.nil_append, List.cons_append, true_and, and_true, eq_self, true_or, or_true, bi_01, mx_nl_i, mx_nl_r, mx_nl_n, mx_nl_f, mx_nl_d, lj0a, lj0b, lj1a, lj1b, lj2a, lj2b, lj3a, lj3b, lj4a, lj4b, lj5a, lj5b, lj6a, lj6b, lj7a, lj7b, lj8a, lj8b, lj9a, lj9b, lj10a, lj10b, lj11a, lj11b, lj12a, lj12b, lj13a, lj13b, lj14a, lj14b, lj15a, lj15b, lj16a, lj16b, lj17a, lj17b, lj18a, lj18b, lj19a, lj19b, hc, mo_gk r1.o, mo_gv r1.o, ar_ik g1, ar_ia g1, ar_is g1, fd_9 e, x0, mx_inN (show 226 + (tp + k) < 280 by omega) (by decide), nI_clamp (show 226 + (tp + k) < 2 ^ 31 by omega), eb, List.set_set, mo_gk r2.o, mo_gv r2.o, ar_ik g2, ar_ia g2, ar_is g2, u9, nI_1]
    exact ih (k + 1) (by omega)
theorem r_feed (r : RW h v A) (ok : OK v A) {w : Int64} {n : Int32} (k : KR h (sp_feed v A w n) Q) : ev_ X (d + 9) 146 [.ref 96, .long w, .int n] h Q := by
  obtain ⟨tp, htp, e⟩ := ok.1.2.2.2.2.1
  unfold sp_feed at k
  by_cases c1 : 1 ≤ n ∧ n ≤ 8
  case neg =>
    rw [if_neg c1] at k
    simp only [i146_0, i146_1, i146_2, i146_3, i146_6, i146_9, i146_12, i146_13, i146_14, i146_17, i146_18, i146_19, i146_22, i146_24, i146_25, i146_26, i146_27, i146_29, i146_32, i146_33, i146_34, i146_37, i146_38, i146_39, i146_41, i146_43, i146_44, i146_47, i146_48, i146_51, i146_54, i146_55, i146_58, i146_60, i146_61, i146_62, i146_63, i146_65, i146_67, i146_68, i146_69, i146_72, i146_73, i146_74, i146_75, i146_76, i146_79, i146_81, i146_82, i146_83, i146_84, i146_85, i146_86, i146_89, i146_92, i146_93, i146_96, i146_98, i146_99, i146_e, c_in, c_isAhead, c_isSheet, c_areRight, bi_eq0, decide_true, decide_false, and_self, if_true, if_false, reduceCtorEq, not_true_eq_false, not_false_eq_true, mx_k0, mx_t0, fa_wide_le, Option.toList_some, Option.toList_none, List.nil_append, List.cons_append, true_and, and_true, eq_self, true_or, or_true, bi_01, mx_nl_i, mx_nl_r, mx_nl_n, mx_nl_f, mx_nl_d, lj0a, lj0b, lj1a, lj1b, lj2a, lj2b, lj3a, lj3b, lj4a, lj4b, lj5a, lj5b, lj6a, lj6b, lj7a, lj7b, lj8a, lj8b, lj9a, lj9b, lj10a, lj10b, lj11a, lj11b, lj12a, lj12b, lj13a, lj13b, lj14a, lj14b, lj15a, lj15b, lj16a, lj16b, lj17a, lj17b, lj18a, lj18b, lj19a, lj19b, ob_co r.o, c_f1 r, c_f2 r, c_f3 r, c_f4 r, c_f5 r, mo_gk r.o, mo_gv r.o, c_isSeller r.o r.g0, c_isSort r.o r.g0, ar_ik r.g0, ar_ia r.g0, ar_is r.g0, c1]
    exact k.er r ok
  rw [if_pos c1] at k
  by_cases c2 : A 0 9 + n ≤ 50
  case neg =>
    rw [if_neg c2] at k
    simp only [i146_0, i146_1, i146_2, i146_3, i146_6, i146_9, i146_12, i146_13, i146_14, i146_17, i146_18, i146_19, i146_22, i146_24, i146_25, i146_26, i146_27, i146_29, i146_32, i146_33, i146_34, i146_37, i146_38, i146_39, i146_41, i146_43, i146_44, i146_47, i146_48, i146_51, i146_54, i146_55, i146_58, i146_60, i146_61, i146_62, i146_63, i146_65, i146_67, i146_68, i146_69, i146_72, i146_73, i146_74, i146_75, i146_76, i146_79, i146_81, i146_82, i146_83, i146_84, i146_85, i146_86, i146_89, i146_92, i146_93, i146_96, i146_98, i146_99, i146_e, c_in, c_isAhead, c_isSheet, c_areRight, bi_eq0, decide_true, decide_false, and_self, if_true, if_false, reduceCtorEq, not_true_eq_false, not_false_eq_true, mx_k0, mx_t0, fa_wide_le, Option.toList_some, Option.toList_none, List.nil_append, List.cons_append, true_and, and_true, eq_self, true_or, or_true, bi_01, mx_nl_i, mx_nl_r, mx_nl_n, mx_nl_f, mx_nl_d, lj0a, lj0b, lj1a, lj1b, lj2a, lj2b, lj3a, lj3b, lj4a, lj4b, lj5a, lj5b, lj6a, lj6b, lj7a, lj7b, lj8a, lj8b, lj9a, lj9b, lj10a, lj10b, lj11a, lj11b, lj12a, lj12b, lj13a, lj13b, lj14a, lj14b, lj15a, lj15b, lj16a, lj16b, lj17a, lj17b, lj18a, lj18b, lj19a, lj19b, ob_co r.o, c_f1 r, c_f2 r, c_f3 r, c_f4 r, c_f5 r, mo_gk r.o, mo_gv r.o, c_isSeller r.o r.g0, c_isSort r.o r.g0, ar_ik r.g0, ar_ia r.g0, ar_is r.g0, c1, c2]
    exact k.er r ok
  rw [if_pos c2] at k
  obtain ⟨N, hN, rfl⟩ := nI_rng (k := 8) (by decide) ⟨Int32.le_trans (by decide) c1.1, c1.2⟩
  have c3 : tp + N ≤ 50 := by
    by_cases q : tp + N ≤ 50
    · exact q
    · exact absurd c2 (by rw [e, nI_add]; exact nI_ge (b := tp + N) (a := 50) (by omega) (by omega))
  rw [e, nI_clamp (by omega), nI_clamp (by omega), nI_add] at k
  simp only [i146_0, i146_1, i146_2, i146_3, i146_6, i146_9, i146_12, i146_13, i146_14, i146_17, i146_18, i146_19, i146_22, i146_24, i146_25, i146_26, i146_27, i146_29, i146_32, i146_33, i146_34, i146_37, i146_38, i146_39, i146_43, i146_44, i146_47, i146_48, i146_51, i146_54, i146_55, i146_58, i146_60, i146_61, i146_62, i146_63, i146_65, i146_67, i146_68, i146_69, i146_72, i146_73, i146_74, i146_75, i146_76, i146_79, i146_81, i146_82, i146_83, i146_84, i146_85, i146_86, i146_89, i146_92, i146_93, i146_96, i146_98, i146_99, i146_e, c_in, c_isAhead, c_isSheet, c_areRight, bi_eq0, decide_true, decide_false, and_self, if_true, if_false, reduceCtorEq, not_true_eq_false, not_false_eq_true, mx_k0, mx_t0, fa_wide_le, Option.toList_some, Option.toList_none, List.nil_append, List.cons_append, true_and, and_true, eq_self, true_or, or_true, bi_01, mx_nl_i, mx_nl_r, mx_nl_n, mx_nl_f, mx_nl_d, lj0a, lj0b, lj1a, lj1b, lj2a, lj2b, lj3a, lj3b, lj4a, lj4b, lj5a, lj5b, lj6a, lj6b, lj7a, lj7b, lj8a, lj8b, lj9a, lj9b, lj10a, lj10b, lj11a, lj11b, lj12a, lj12b, lj13a, lj13b, lj14a, lj14b, lj15a, lj15b, lj16a, lj16b, lj17a, lj17b, lj18a, lj18b, lj19a, lj19b, ob_co r.o, c_f1 r, c_f2 r, c_f3 r, c_f4 r, c_f5 r, mo_gk r.o, mo_gv r.o, c_isSeller r.o r.g0, c_isSort r.o r.g0, ar_ik r.g0, ar_ia r.g0, ar_is r.g0, c1, c2]
  have hl := c_feed_l (X := X) (d := d) (Q := Q) (w := w) (w2 := .double 0) r e c3 N 0 (by omega)
  have e0 : h.set 97 (.inl (0, 280, .inl (fd_ w (A 0) tp 0))) = h := mx_setid r.g0
  rw [e0] at hl
  exact hl.mpr (k.dd r ok)
theorem KR.d0 {h' : MXH} {A' : Nat → Nat → Int32} {x : Int32} {f : Nat → Int32} (q : KR h (x, v, up2 A 0 f) Q) (ok : OK v A) (r : RW h' v A') (fr : FR h h') (s : S2 0 A A') (e : A' 0 = f) : Q (some (.int x)) h' := by
  refine q h' v A' ⟨r, fr, rfl, rfl, fun j hj => ?_, ?_⟩
  · show A' j = up2 A 0 f j
    by_cases eq : j = 0
    · subst eq; rw [up2_s]; exact e
    · rw [up2_n eq]; exact s j eq (by omega) (by omega) (by omega)
  · rw [s 1 (by decide) (by decide) (by decide) (by decide)]; exact ok.2.1
theorem u_i (u : UInt32) : u.toInt32 = nI u.toNat := by
  unfold nI
  apply Int32.toBitVec_inj.mp
  apply BitVec.eq_of_toNat_eq
  rw [Int32.toBitVec_ofNat', BitVec.toNat_ofNat, Nat.mod_eq_of_lt u.toNat_lt]
  rfl
/-- days -/
def nsA (A : Nat → Nat → Int32) : Nat := (A 0 1).toNatClampNeg
def nbA (A : Nat → Nat → Int32) : Nat := (A 0 2).toNatClampNeg
theorem MD.ab {A : Nat → Nat → Int32} (h : ∃ ns nb, MD (A 0) ns nb) : MD (A 0) (nsA A) (nbA A) := by
  obtain ⟨ns, nb, h1, h2, h3, h4, h5⟩ := h
  unfold nsA nbA
  rw [h3, h4, nI_clamp (by omega), nI_clamp (by omega)]
  exact ⟨h1, h2, h3, h4, h5⟩
/-- days ahead, of a row like d -/
def fw_ (A : Nat → Nat → Int32) (m : Nat → Int32) (n : Nat) : Nat → Int32 := gon (G_ (A 0)) m (nsA A) (nbA A) n
def sp_days (v : Nat → Int32) (A : Nat → Nat → Int32) (n : Int32) : PR := if 1 ≤ n ∧ n ≤ 60 then (if A 0 0 + n ≤ 399 then (fw_ A (A 0) n.toNatClampNeg 0, v, up2 A 0 (fw_ A (A 0) n.toNatClampNeg)) else er_ v A 3) else er_ v A 1
theorem r_days (r : RW h v A) (ok : OK v A) {n : Int32} (k : KR h (sp_days v A n) Q) : ev_ X (d + 9) 172 [.ref 96, .int n] h Q := by
  unfold sp_days at k
  by_cases c1 : 1 ≤ n ∧ n ≤ 60
  case neg =>
    rw [if_neg c1] at k
    simp only [i172_0, i172_1, i172_2, i172_3, i172_6, i172_9, i172_12, i172_13, i172_14, i172_17, i172_18, i172_19, i172_22, i172_23, i172_24, i172_25, i172_26, i172_29, i172_32, i172_33, i172_34, i172_37, i172_38, i172_39, i172_40, i172_43, i172_44, i172_47, i172_48, i172_51, i172_52, i172_53, i172_e, c_in, c_isAhead, c_isSheet, c_areRight, bi_eq0, decide_true, decide_false, and_self, if_true, if_false, reduceCtorEq, not_true_eq_false, not_false_eq_true, mx_k0, mx_t0, fa_wide_le, Option.toList_some, Option.toList_none, List.nil_append, List.cons_append, true_and, and_true, eq_self, true_or, or_true, bi_01, mx_nl_i, mx_nl_r, mx_nl_n, mx_nl_f, mx_nl_d, lj0a, lj0b, lj1a, lj1b, lj2a, lj2b, lj3a, lj3b, lj4a, lj4b, lj5a, lj5b, lj6a, lj6b, lj7a, lj7b, lj8a, lj8b, lj9a, lj9b, lj10a, lj10b, lj11a, lj11b, lj12a, lj12b, lj13a, lj13b, lj14a, lj14b, lj15a, lj15b, lj16a, lj16b, lj17a, lj17b, lj18a, lj18b, lj19a, lj19b, ob_co r.o, c_f1 r, c_f2 r, c_f3 r, c_f4 r, c_f5 r, mo_gk r.o, mo_gv r.o, c_isSeller r.o r.g0, c_isSort r.o r.g0, ar_ik r.g0, ar_ia r.g0, ar_is r.g0, c1]
    exact k.er r ok
  rw [if_pos c1] at k
  by_cases c2 : A 0 0 + n ≤ 399
  case neg =>
    rw [if_neg c2] at k
    simp only [i172_0, i172_1, i172_2, i172_3, i172_6, i172_9, i172_12, i172_13, i172_14, i172_17, i172_18, i172_19, i172_22, i172_23, i172_24, i172_25, i172_26, i172_29, i172_32, i172_33, i172_34, i172_37, i172_38, i172_39, i172_40, i172_43, i172_44, i172_47, i172_48, i172_51, i172_52, i172_53, i172_e, c_in, c_isAhead, c_isSheet, c_areRight, bi_eq0, decide_true, decide_false, and_self, if_true, if_false, reduceCtorEq, not_true_eq_false, not_false_eq_true, mx_k0, mx_t0, fa_wide_le, Option.toList_some, Option.toList_none, List.nil_append, List.cons_append, true_and, and_true, eq_self, true_or, or_true, bi_01, mx_nl_i, mx_nl_r, mx_nl_n, mx_nl_f, mx_nl_d, lj0a, lj0b, lj1a, lj1b, lj2a, lj2b, lj3a, lj3b, lj4a, lj4b, lj5a, lj5b, lj6a, lj6b, lj7a, lj7b, lj8a, lj8b, lj9a, lj9b, lj10a, lj10b, lj11a, lj11b, lj12a, lj12b, lj13a, lj13b, lj14a, lj14b, lj15a, lj15b, lj16a, lj16b, lj17a, lj17b, lj18a, lj18b, lj19a, lj19b, ob_co r.o, c_f1 r, c_f2 r, c_f3 r, c_f4 r, c_f5 r, mo_gk r.o, mo_gv r.o, c_isSeller r.o r.g0, c_isSort r.o r.g0, ar_ik r.g0, ar_ia r.g0, ar_is r.g0, c1, c2]
    exact k.er r ok
  rw [if_pos c2] at k
  simp only [i172_0, i172_1, i172_2, i172_3, i172_6, i172_9, i172_12, i172_13, i172_14, i172_17, i172_18, i172_19, i172_22, i172_23, i172_24, i172_25, i172_26, i172_29, i172_32, i172_33, i172_34, i172_37, i172_38, i172_39, i172_40, i172_43, i172_44, i172_47, i172_48, i172_51, i172_52, i172_53, i172_e, c_in, c_isAhead, c_isSheet, c_areRight, bi_eq0, decide_true, decide_false, and_self, if_true, if_false, reduceCtorEq, not_true_eq_false, not_false_eq_true, mx_k0, mx_t0, fa_wide_le, Option.toList_some, Option.toList_none, List.nil_append, List.cons_append, true_and, and_true, eq_self, true_or, or_true, bi_01, mx_nl_i, mx_nl_r, mx_nl_n, mx_nl_f, mx_nl_d, lj0a, lj0b, lj1a, lj1b, lj2a, lj2b, lj3a, lj3b, lj4a, lj4b, lj5a, lj5b, lj6a, lj6b, lj7a, lj7b, lj8a, lj8b, lj9a, lj9b, lj10a, lj10b, lj11a, lj11b, lj12a, lj12b, lj13a, lj13b, lj14a, lj14b, lj15a, lj15b, lj16a, lj16b, lj17a, lj17b, lj18a, lj18b, lj19a, lj19b, ob_co r.o, c_f1 r, c_f2 r, c_f3 r, c_f4 r, c_f5 r, mo_gk r.o, mo_gv r.o, c_isSeller r.o r.g0, c_isSort r.o r.g0, ar_ik r.g0, ar_ia r.g0, ar_is r.g0, c1, c2]
  obtain ⟨N, hN, rfl⟩ := nI_rng (k := 60) (by decide) ⟨Int32.le_trans (by decide) c1.1, c1.2⟩
  rw [nI_clamp (by omega)] at k
  refine c_goesOn r (by omega) (ai := 0) (by decide) (MD.ab ok.1.1) ok.1.2.1 ok.1.2.2.1 (fun h' A' r' fr s2 ea => ?_)
  have g' := r'.g0
  simp only [i172_0, i172_1, i172_2, i172_3, i172_6, i172_9, i172_12, i172_13, i172_14, i172_17, i172_18, i172_19, i172_22, i172_23, i172_24, i172_25, i172_26, i172_29, i172_32, i172_33, i172_34, i172_37, i172_38, i172_39, i172_40, i172_43, i172_44, i172_47, i172_48, i172_51, i172_52, i172_53, i172_e, c_in, c_isAhead, c_isSheet, c_areRight, bi_eq0, decide_true, decide_false, and_self, if_true, if_false, reduceCtorEq, not_true_eq_false, not_false_eq_true, mx_k0, mx_t0, fa_wide_le, Option.toList_some, Option.toList_none, List.nil_append, List.cons_append, true_and, and_true, eq_self, true_or, or_true, bi_01, mx_nl_i, mx_nl_r, mx_nl_n, mx_nl_f, mx_nl_d, lj0a, lj0b, lj1a, lj1b, lj2a, lj2b, lj3a, lj3b, lj4a, lj4b, lj5a, lj5b, lj6a, lj6b, lj7a, lj7b, lj8a, lj8b, lj9a, lj9b, lj10a, lj10b, lj11a, lj11b, lj12a, lj12b, lj13a, lj13b, lj14a, lj14b, lj15a, lj15b, lj16a, lj16b, lj17a, lj17b, lj18a, lj18b, lj19a, lj19b, mo_gk r'.o, mo_gv r'.o, ar_ik g', ar_ia g', ea]
  exact k.d0 ok r' fr s2 ea
/-- year -/
def dr_ (z : Int32) : Int32 := (z.toUInt32 >>> ((8 : Int32).toUInt32 &&& Int32.toUInt32 31)).toInt32 - (z.toUInt32 >>> ((8 : Int32).toUInt32 &&& Int32.toUInt32 31)).toInt32 / 3 * 3
theorem dr_in (z : Int32) : ∃ e : Nat, e < 3 ∧ dr_ z = nI e := by
  have h1 : ((8 : Int32).toUInt32 &&& Int32.toUInt32 31) = 8 := by decide
  unfold dr_
  rw [h1]
  have h2 : (z.toUInt32 >>> 8).toInt32 = nI (z.toUInt32 >>> 8).toNat := u_i _
  have h3 : (z.toUInt32 >>> 8).toNat < 2 ^ 24 := by
    rw [UInt32.toNat_shiftRight]
    have := z.toUInt32.toNat_lt
    have e8 : (8 : UInt32).toNat % 32 = 8 := by decide
    rw [e8, Nat.shiftRight_eq_div_pow]
    omega
  rw [h2]
  refine ⟨(z.toUInt32 >>> 8).toNat % 3, Nat.mod_lt _ (by decide), ?_⟩
  exact pk_rem (d := 3) (by omega) (by decide) (by decide)
def ys_ (m : Nat → Int32) : Nat → Int32 := upd (upd m 8 (m 8 * 1103515245 + 12345)) 3 (dr_ (m 8 * 1103515245 + 12345))
def yr_ (G : MXGf) (m : Nat → Int32) (ns nb : Nat) : Nat → Nat → Int32
  | 0 => m
  | n + 1 => by_ G (ys_ (yr_ G m ns nb n)) ns nb
theorem ys_at {m : Nat → Int32} {j : Nat} (h1 : j ≠ 8) (h2 : j ≠ 3) : ys_ m j = m j := by unfold ys_; rw [pk_un h2, pk_un h1]
theorem MD.ys {m : Nat → Int32} {ns nb : Nat} (h : MD m ns nb) : MD (ys_ m) ns nb := ⟨h.1, h.2.1, by rw [ys_at (by decide) (by decide)]; exact h.2.2.1, by rw [ys_at (by decide) (by decide)]; exact h.2.2.2.1, by unfold ys_; rw [pk_us]; exact dr_in _⟩
theorem MD.yr {G : MXGf} {m : Nat → Int32} {ns nb : Nat} (h : MD m ns nb) : ∀ n, MD (yr_ G m ns nb n) ns nb
  | 0 => h
  | n + 1 => ((MD.yr h n).ys).by
theorem yr_te {G : MXGf} {m : Nat → Int32} {ns nb : Nat} (hns : ns ≤ 6) (hnb : nb ≤ 8) : ∀ n, TE m (yr_ G m ns nb n)
  | 0 => TE.rf m
  | n + 1 => (yr_te hns hnb n).tr (fun j hj => by
      show by_ G (ys_ (yr_ G m ns nb n)) ns nb j = _
      rw [by_at hns hnb (by omega) (by omega) (by omega), ys_at (by omega) (by omega)])
def sp_year (v : Nat → Int32) (A : Nat → Nat → Int32) (n : Int32) : PR := if 1 ≤ n ∧ n ≤ 60 then (if A 0 0 + n ≤ 399 then (yr_ (G_ (A 0)) (A 0) (nsA A) (nbA A) n.toNatClampNeg 3, v, up2 A 0 (yr_ (G_ (A 0)) (A 0) (nsA A) (nbA A) n.toNatClampNeg)) else er_ v A 3) else er_ v A 1
set_option maxHeartbeats 1000000 in
theorem c_year_l {ns nb N : Nat} (hN : N < 2 ^ 31) (hm : MD (A 0) ns nb) (ht0 : TO (A 0) 0) (ht : TO (A 0) 1)
    (k' : ∀ h' A', RW h' v A' → FR h h' → S2 0 A A' → A' 0 = yr_ (G_ (A 0)) (A 0) ns nb N → Q (some (.int (yr_ (G_ (A 0)) (A 0) ns nb N 3))) h') :
    ∀ (n k : Nat) (h' : MXH) (A' : Nat → Nat → Int32), k + n = N → RW h' v A' → FR h h' → S2 0 A A' → A' 0 = yr_ (G_ (A 0)) (A 0) ns nb k → ex_ X (d + 9) 173 40 [.ref 96, .int (nI N), .int (nI k)] [] h' Q := by
  intro n
  induction n with
  | zero =>
    intro k h' A' hk r fr s2 ea
    have e : k = N := by omega
    subst e
    rw [i173_40]
    simp only [i173_0, i173_1, i173_2, i173_3, i173_6, i173_9, i173_12, i173_13, i173_14, i173_17, i173_18, i173_19, i173_22, i173_23, i173_24, i173_25, i173_26, i173_29, i173_32, i173_33, i173_34, i173_37, i173_38, i173_39, i173_41, i173_42, i173_45, i173_46, i173_49, i173_51, i173_52, i173_55, i173_57, i173_58, i173_60, i173_61, i173_64, i173_65, i173_66, i173_67, i173_70, i173_71, i173_72, i173_75, i173_77, i173_78, i173_80, i173_81, i173_82, i173_83, i173_84, i173_85, i173_86, i173_89, i173_92, i173_95, i173_98, i173_99, i173_102, i173_103, i173_104, i173_e, c_in, c_isAhead, c_isSheet, c_areRight, bi_eq0, decide_true, decide_false, and_self, if_true, if_false, reduceCtorEq, not_true_eq_false, not_false_eq_true, mx_k0, mx_t0, fa_wide_le, Option.toList_some, Option.toList_none, List.nil_append, List.cons_append, true_and, and_true, eq_self, true_or, or_true, bi_01, mx_nl_i, mx_nl_r, mx_nl_n, mx_nl_f, mx_nl_d, lj0a, lj0b, lj1a, lj1b, lj2a, lj2b, lj3a, lj3b, lj4a, lj4b, lj5a, lj5b, lj6a, lj6b, lj7a, lj7b, lj8a, lj8b, lj9a, lj9b, lj10a, lj10b, lj11a, lj11b, lj12a, lj12b, lj13a, lj13b, lj14a, lj14b, lj15a, lj15b, lj16a, lj16b, lj17a, lj17b, lj18a, lj18b, lj19a, lj19b, ob_co r.o, c_f1 r, c_f2 r, c_f3 r, c_f4 r, c_f5 r, mo_gk r.o, mo_gv r.o, c_isSeller r.o r.g0, c_isSort r.o r.g0, ar_ik r.g0, ar_ia r.g0, ar_is r.g0, Int32.le_refl, ea]
    exact k' h' A' r fr s2 ea
  | succ n ih =>
    intro k h' A' hk r fr s2 ea
    have hc : ¬ ((nI N : Int32) ≤ nI k) := by rw [nI_leI (by omega) (by omega)]; omega
    have r1 := r.s0 (f := upd (A' 0) 8 (A' 0 8 * 1103515245 + 12345))
    have g1 := r1.g0
    rw [up2_s] at g1
    have r2 := r.s0 (f := ys_ (A' 0))
    have te0 : TE (A 0) (A' 0) := by rw [ea]; exact yr_te hm.1 hm.2.1 k
    have te2 : TE (A' 0) (up2 A' 0 (ys_ (A' 0)) 0) := by rw [up2_s]; exact fun j hj => ys_at (by omega) (by omega)
    have md : MD (up2 A' 0 (ys_ (A' 0)) 0) ns nb := by rw [up2_s, ea]; exact (hm.yr k).ys
    have t0 := TO_S2 (TO_S2 ht0 s2 (by decide) te0) (S2.up (f := ys_ (A' 0))) (by decide) te2
    have t1 := TO_S2 (TO_S2 ht s2 (by decide) te0) (S2.up (f := ys_ (A' 0))) (by decide) te2
    have g2 := (G_S2 (S2.up (f := ys_ (A' 0))) (by decide) te2).trans (G_S2 s2 (by decide) te0)
    have ed : (((A' 0 8 * 1103515245 + 12345).toUInt32 >>> ((8 : Int32).toUInt32 &&& Int32.toUInt32 31)).toInt32 - ((A' 0 8 * 1103515245 + 12345).toUInt32 >>> ((8 : Int32).toUInt32 &&& Int32.toUInt32 31)).toInt32 / 3 * 3) = dr_ (A' 0 8 * 1103515245 + 12345) := rfl
    have ey : upd (upd (A' 0) 8 (A' 0 8 * 1103515245 + 12345)) 3 (dr_ (A' 0 8 * 1103515245 + 12345)) = ys_ (A' 0) := rfl
    rw [i173_40]
    simp only [i173_0, i173_1, i173_2, i173_3, i173_6, i173_9, i173_12, i173_13, i173_14, i173_17, i173_18, i173_19, i173_22, i173_23, i173_24, i173_25, i173_26, i173_29, i173_32, i173_33, i173_34, i173_37, i173_38, i173_39, i173_41, i173_42, i173_45, i173_46, i173_49, i173_51, i173_52, i173_55, i173_57, i173_58, i173_60, i173_61, i173_64, i173_65, i173_66, i173_67, i173_70, i173_71, i173_72, i173_75, i173_77, i173_78, i173_80, i173_81, i173_82, i173_83, i173_84, i173_85, i173_86, i173_89, i173_92, i173_95, i173_98, i173_99, i173_102, i173_103, i173_104, i173_e, c_in, c_isAhead, c_isSheet, c_areRight, bi_eq0, decide_true, decide_false, and_self, if_true, if_false, reduceCtorEq, not_true_eq_false, not_false_eq_true, mx_k0, mx_t0, fa_wide_le, Option.toList_some, Option.toList_none, List.nil_append, List.cons_append, true_and, and_true, eq_self, true_or, or_true, bi_01, mx_nl_i, mx_nl_r, mx_nl_n, mx_nl_f, mx_nl_d, lj0a, lj0b, lj1a, lj1b, lj2a, lj2b, lj3a, lj3b, lj4a, lj4b, lj5a, lj5b, lj6a, lj6b, lj7a, lj7b, lj8a, lj8b, lj9a, lj9b, lj10a, lj10b, lj11a, lj11b, lj12a, lj12b, lj13a, lj13b, lj14a, lj14b, lj15a, lj15b, lj16a, lj16b, lj17a, lj17b, lj18a, lj18b, lj19a, lj19b, ob_co r.o, c_f1 r, c_f2 r, c_f3 r, c_f4 r, c_f5 r, mo_gk r.o, mo_gv r.o, c_isSeller r.o r.g0, c_isSort r.o r.g0, ar_ik r.g0, ar_ia r.g0, ar_is r.g0, hc, mo_gk r1.o, mo_gv r1.o, ar_ik g1, ar_ia g1, ar_is g1, pk_us, List.set_set, ne_eq, show ¬ ((3 : Int32) = 0) from by decide, ed, ey, mo_gk r2.o, mo_gv r2.o, ob_co r2.o]
    refine c_goesBy r2 (ai := 0) (by decide) md.1 md.2.1 md.2.2.1 md.2.2.2.1 md.2.2.2.2 t0 t1 (fun h4 A4 r4 fr4 s4 ea4 => ?_)
    rw [g2, up2_s, ea] at ea4
    simp only [i173_0, i173_1, i173_2, i173_3, i173_6, i173_9, i173_12, i173_13, i173_14, i173_17, i173_18, i173_19, i173_22, i173_23, i173_24, i173_25, i173_26, i173_29, i173_32, i173_33, i173_34, i173_37, i173_38, i173_39, i173_41, i173_42, i173_45, i173_46, i173_49, i173_51, i173_52, i173_55, i173_57, i173_58, i173_60, i173_61, i173_64, i173_65, i173_66, i173_67, i173_70, i173_71, i173_72, i173_75, i173_77, i173_78, i173_80, i173_81, i173_82, i173_83, i173_84, i173_85, i173_86, i173_89, i173_92, i173_95, i173_98, i173_99, i173_102, i173_103, i173_104, i173_e, c_in, c_isAhead, c_isSheet, c_areRight, bi_eq0, decide_true, decide_false, and_self, if_true, if_false, reduceCtorEq, not_true_eq_false, not_false_eq_true, mx_k0, mx_t0, fa_wide_le, Option.toList_some, Option.toList_none, List.nil_append, List.cons_append, true_and, and_true, eq_self, true_or, or_true, bi_01, mx_nl_i, mx_nl_r, mx_nl_n, mx_nl_f, mx_nl_d, lj0a, lj0b, lj1a, lj1b, lj2a, lj2b, lj3a, lj3b, lj4a, lj4b, lj5a, lj5b, lj6a, lj6b, lj7a, lj7b, lj8a, lj8b, lj9a, lj9b, lj10a, lj10b, lj11a, lj11b, lj12a, lj12b, lj13a, lj13b, lj14a, lj14b, lj15a, lj15b, lj16a, lj16b, lj17a, lj17b, lj18a, lj18b, lj19a, lj19b, nI_1]
    exact ih (k + 1) h4 A4 (by omega) r4 ((fr.tr (FR.set (by decide) (by decide))).tr fr4) ((s2.tr S2.up).tr s4) ea4
theorem r_year (r : RW h v A) (ok : OK v A) {n : Int32} (k : KR h (sp_year v A n) Q) : ev_ X (d + 9) 173 [.ref 96, .int n] h Q := by
  unfold sp_year at k
  by_cases c1 : 1 ≤ n ∧ n ≤ 60
  case neg =>
    rw [if_neg c1] at k
    simp only [i173_0, i173_1, i173_2, i173_3, i173_6, i173_9, i173_12, i173_13, i173_14, i173_17, i173_18, i173_19, i173_22, i173_23, i173_24, i173_25, i173_26, i173_29, i173_32, i173_33, i173_34, i173_37, i173_38, i173_39, i173_40, i173_41, i173_42, i173_45, i173_46, i173_49, i173_51, i173_52, i173_55, i173_57, i173_58, i173_60, i173_61, i173_64, i173_65, i173_66, i173_67, i173_70, i173_71, i173_72, i173_75, i173_77, i173_78, i173_80, i173_81, i173_82, i173_83, i173_84, i173_85, i173_86, i173_89, i173_92, i173_95, i173_98, i173_99, i173_102, i173_103, i173_104, i173_e, c_in, c_isAhead, c_isSheet, c_areRight, bi_eq0, decide_true, decide_false, and_self, if_true, if_false, reduceCtorEq, not_true_eq_false, not_false_eq_true, mx_k0, mx_t0, fa_wide_le, Option.toList_some, Option.toList_none, List.nil_append, List.cons_append, true_and, and_true, eq_self, true_or, or_true, bi_01, mx_nl_i, mx_nl_r, mx_nl_n, mx_nl_f, mx_nl_d, lj0a, lj0b, lj1a, lj1b, lj2a, lj2b, lj3a, lj3b, lj4a, lj4b, lj5a, lj5b, lj6a, lj6b, lj7a, lj7b, lj8a, lj8b, lj9a, lj9b, lj10a, lj10b, lj11a, lj11b, lj12a, lj12b, lj13a, lj13b, lj14a, lj14b, lj15a, lj15b, lj16a, lj16b, lj17a, lj17b, lj18a, lj18b, lj19a, lj19b, ob_co r.o, c_f1 r, c_f2 r, c_f3 r, c_f4 r, c_f5 r, mo_gk r.o, mo_gv r.o, c_isSeller r.o r.g0, c_isSort r.o r.g0, ar_ik r.g0, ar_ia r.g0, ar_is r.g0, c1]
    exact k.er r ok
  rw [if_pos c1] at k
  by_cases c2 : A 0 0 + n ≤ 399
  case neg =>
    rw [if_neg c2] at k
    simp only [i173_0, i173_1, i173_2, i173_3, i173_6, i173_9, i173_12, i173_13, i173_14, i173_17, i173_18, i173_19, i173_22, i173_23, i173_24, i173_25, i173_26, i173_29, i173_32, i173_33, i173_34, i173_37, i173_38, i173_39, i173_40, i173_41, i173_42, i173_45, i173_46, i173_49, i173_51, i173_52, i173_55, i173_57, i173_58, i173_60, i173_61, i173_64, i173_65, i173_66, i173_67, i173_70, i173_71, i173_72, i173_75, i173_77, i173_78, i173_80, i173_81, i173_82, i173_83, i173_84, i173_85, i173_86, i173_89, i173_92, i173_95, i173_98, i173_99, i173_102, i173_103, i173_104, i173_e, c_in, c_isAhead, c_isSheet, c_areRight, bi_eq0, decide_true, decide_false, and_self, if_true, if_false, reduceCtorEq, not_true_eq_false, not_false_eq_true, mx_k0, mx_t0, fa_wide_le, Option.toList_some, Option.toList_none, List.nil_append, List.cons_append, true_and, and_true, eq_self, true_or, or_true, bi_01, mx_nl_i, mx_nl_r, mx_nl_n, mx_nl_f, mx_nl_d, lj0a, lj0b, lj1a, lj1b, lj2a, lj2b, lj3a, lj3b, lj4a, lj4b, lj5a, lj5b, lj6a, lj6b, lj7a, lj7b, lj8a, lj8b, lj9a, lj9b, lj10a, lj10b, lj11a, lj11b, lj12a, lj12b, lj13a, lj13b, lj14a, lj14b, lj15a, lj15b, lj16a, lj16b, lj17a, lj17b, lj18a, lj18b, lj19a, lj19b, ob_co r.o, c_f1 r, c_f2 r, c_f3 r, c_f4 r, c_f5 r, mo_gk r.o, mo_gv r.o, c_isSeller r.o r.g0, c_isSort r.o r.g0, ar_ik r.g0, ar_ia r.g0, ar_is r.g0, c1, c2]
    exact k.er r ok
  rw [if_pos c2] at k
  simp only [i173_0, i173_1, i173_2, i173_3, i173_6, i173_9, i173_12, i173_13, i173_14, i173_17, i173_18, i173_19, i173_22, i173_23, i173_24, i173_25, i173_26, i173_29, i173_32, i173_33, i173_34, i173_37, i173_38, i173_39, i173_41, i173_42, i173_45, i173_46, i173_49, i173_51, i173_52, i173_55, i173_57, i173_58, i173_60, i173_61, i173_64, i173_65, i173_66, i173_67, i173_70, i173_71, i173_72, i173_75, i173_77, i173_78, i173_80, i173_81, i173_82, i173_83, i173_84, i173_85, i173_86, i173_89, i173_92, i173_95, i173_98, i173_99, i173_102, i173_103, i173_104, i173_e, c_in, c_isAhead, c_isSheet, c_areRight, bi_eq0, decide_true, decide_false, and_self, if_true, if_false, reduceCtorEq, not_true_eq_false, not_false_eq_true, mx_k0, mx_t0, fa_wide_le, Option.toList_some, Option.toList_none, List.nil_append, List.cons_append, true_and, and_true, eq_self, true_or, or_true, bi_01, mx_nl_i, mx_nl_r, mx_nl_n, mx_nl_f, mx_nl_d, lj0a, lj0b, lj1a, lj1b, lj2a, lj2b, lj3a, lj3b, lj4a, lj4b, lj5a, lj5b, lj6a, lj6b, lj7a, lj7b, lj8a, lj8b, lj9a, lj9b, lj10a, lj10b, lj11a, lj11b, lj12a, lj12b, lj13a, lj13b, lj14a, lj14b, lj15a, lj15b, lj16a, lj16b, lj17a, lj17b, lj18a, lj18b, lj19a, lj19b, ob_co r.o, c_f1 r, c_f2 r, c_f3 r, c_f4 r, c_f5 r, mo_gk r.o, mo_gv r.o, c_isSeller r.o r.g0, c_isSort r.o r.g0, ar_ik r.g0, ar_ia r.g0, ar_is r.g0, c1, c2]
  obtain ⟨N, hN, rfl⟩ := nI_rng (k := 60) (by decide) ⟨Int32.le_trans (by decide) c1.1, c1.2⟩
  rw [nI_clamp (by omega)] at k
  refine c_year_l (A := A) (h := h) (by omega) (MD.ab ok.1.1) ok.1.2.1 ok.1.2.2.1 (fun h' A' r' fr s2 ea => ?_) N 0 h A (by omega) r (FR.rf h) (fun _ _ _ _ _ => rfl) rfl
  exact k.d0 ok r' fr s2 ea
/-! days ahead -/
theorem KR.s2 {h' : MXH} {A' : Nat → Nat → Int32} {x : Int32} (q : KR h (x, v, A) Q) (r : RW h' v A') (f : FR h h') (s : S2 1 A A') (z : Z_ (A' 1)) : Q (some (.int x)) h' := q h' v A' ⟨r, f, rfl, rfl, fun j hj => s j (by omega) (by omega) (by omega) (by omega), z⟩
theorem fw_z {m : Nat → Int32} (ok : OK v A) (hm : Z_ m) (n : Nat) : Z_ (fw_ A m n) := fun j hj => by
  have md := MD.ab ok.1.1
  unfold fw_
  rw [gon_at md.1 md.2.1 (by omega) (by omega) (by omega)]
  exact hm j hj
theorem Z_.up {m : Nat → Int32} {i : Nat} {x : Int32} (hm : Z_ m) (hi : i < 280) : Z_ (upd m i x) := fun j hj => by rw [pk_un (by omega)]; exact hm j hj
theorem S2.cp {f : Nat → Int32} : S2 1 A (up2 A 1 f) := S2.up
/-- e as it is, days on -/
theorem c_gonE (r : RW h v A) (ok : OK v A) {A1 : Nat → Nat → Int32} {h1 : MXH} (r1 : RW h1 v A1) (fr : FR h h1) (s2 : S2 1 A A1) {m : Nat → Int32} (hm : A1 1 = m) (md : MD m (nsA A) (nbA A)) {N : Nat} (hN : N < 2 ^ 31)
    (k : ∀ h' A', RW h' v A' → FR h h' → S2 1 A A' → A' 1 = fw_ A m N → Q none h') : ev_ X (d + 6) 171 [.ref 96, .ref 98, .int (nI N)] h1 Q := by
  have e0 : A1 0 = A 0 := s2 0 (by decide) (by decide) (by decide) (by decide)
  refine c_goesOn r1 hN (ai := 1) (ns := nsA A) (nb := nbA A) (by decide) (by rw [hm]; exact md) (by rw [e0]; exact ok.1.2.1) (by rw [e0]; exact ok.1.2.2.1) (fun h' A' r' fr' s2' ea => ?_)
  rw [e0, hm] at ea
  exact k h' A' r' (fr.tr fr') (s2.tr s2') ea
theorem c_cpE (r : RW h v A) (ok : OK v A) (z : Z_ (A 1)) : ev_ X d 126 [.ref 97, .ref 98] h Q = Q none (h.set 98 (.inl (0, 280, .inl (A 0)))) := by
  rw [c_copies (show (98 : Nat) ≠ 97 by decide) r.g0 r.g1, cpf_z ok.1.2.2.2.1 z]
theorem c_ahead (r : RW h v A) (ok : OK v A) {N : Nat} (hN : N < 2 ^ 31) (k : ∀ h' A', RW h' v A' → FR h h' → S2 1 A A' → A' 1 = fw_ A (A 0) N → Q none h') : ev_ X (d + 7) 175 [.ref 96, .int (nI N)] h Q := by
  have r1 := r.s1 (f := A 0)
  simp only [i175_0, i175_1, i175_4, i175_5, i175_8, i175_11, i175_12, i175_13, i175_16, i175_17, i175_20, i175_e, c_in, c_isAhead, c_isSheet, c_areRight, bi_eq0, decide_true, decide_false, and_self, if_true, if_false, reduceCtorEq, not_true_eq_false, not_false_eq_true, mx_k0, mx_t0, fa_wide_le, Option.toList_some, Option.toList_none, List.nil_append, List.cons_append, true_and, and_true, eq_self, true_or, or_true, bi_01, mx_nl_i, mx_nl_r, mx_nl_n, mx_nl_f, mx_nl_d, lj0a, lj0b, lj1a, lj1b, lj2a, lj2b, lj3a, lj3b, lj4a, lj4b, lj5a, lj5b, lj6a, lj6b, lj7a, lj7b, lj8a, lj8b, lj9a, lj9b, lj10a, lj10b, lj11a, lj11b, lj12a, lj12b, lj13a, lj13b, lj14a, lj14b, lj15a, lj15b, lj16a, lj16b, lj17a, lj17b, lj18a, lj18b, lj19a, lj19b, mo_gk r.o, mo_gv r.o, c_cpE r ok ok.2.1, mo_gk r1.o, mo_gv r1.o, ob_co r1.o]
  refine c_gonE r ok r1 (FR.set (by decide) (by decide)) S2.up (m := A 0) (up2_s 1) (MD.ab ok.1.1) hN (fun h' A' r' fr s2 ea => ?_)
  simp only [i175_0, i175_1, i175_4, i175_5, i175_8, i175_11, i175_12, i175_13, i175_16, i175_17, i175_20, i175_e, c_in, c_isAhead, c_isSheet, c_areRight, bi_eq0, decide_true, decide_false, and_self, if_true, if_false, reduceCtorEq, not_true_eq_false, not_false_eq_true, mx_k0, mx_t0, fa_wide_le, Option.toList_some, Option.toList_none, List.nil_append, List.cons_append, true_and, and_true, eq_self, true_or, or_true, bi_01, mx_nl_i, mx_nl_r, mx_nl_n, mx_nl_f, mx_nl_d, lj0a, lj0b, lj1a, lj1b, lj2a, lj2b, lj3a, lj3b, lj4a, lj4b, lj5a, lj5b, lj6a, lj6b, lj7a, lj7b, lj8a, lj8b, lj9a, lj9b, lj10a, lj10b, lj11a, lj11b, lj12a, lj12b, lj13a, lj13b, lj14a, lj14b, lj15a, lj15b, lj16a, lj16b, lj17a, lj17b, lj18a, lj18b, lj19a, lj19b]
  exact k h' A' r' fr s2 ea
/-- then -/
def sp_then (v : Nat → Int32) (A : Nat → Nat → Int32) (n a b : Int32) : PR := if (0 ≤ n ∧ n ≤ 60) ∧ (0 ≤ a ∧ a ≤ A 0 1 - 1) ∧ (0 ≤ b ∧ b ≤ 8) then (osf_ (G_ (A 0)) (fw_ A (A 0) n.toNatClampNeg) a.toNatClampNeg b, v, A) else er_ v A 1
theorem r_then (r : RW h v A) (ok : OK v A) {n a b : Int32} (k : KR h (sp_then v A n a b) Q) : ev_ X (d + 9) 176 [.ref 96, .int n, .int a, .int b] h Q := by
  obtain ⟨ns, nb, hns, hnb, e1, e2, -⟩ := ok.1.1
  unfold sp_then at k
  by_cases hc : (0 ≤ n ∧ n ≤ 60) ∧ (0 ≤ a ∧ a ≤ A 0 1 - 1) ∧ (0 ≤ b ∧ b ≤ 8)
  case neg =>
    rw [if_neg hc] at k
    have hf := k.er r ok
    by_cases c0 : (0 ≤ n ∧ n ≤ 60) <;> by_cases c1 : (0 ≤ a ∧ a ≤ A 0 1 - 1) <;> by_cases c2 : (0 ≤ b ∧ b ≤ 8)
    · exact False.elim (hc ⟨c0, c1, c2⟩)
    all_goals simp only [i176_0, i176_1, i176_4, i176_7, i176_8, i176_9, i176_12, i176_15, i176_16, i176_17, i176_18, i176_21, i176_24, i176_27, i176_28, i176_29, i176_32, i176_33, i176_34, i176_35, i176_38, i176_39, i176_41, i176_44, i176_45, i176_48, i176_49, i176_52, i176_53, i176_56, i176_59, i176_62, i176_63, i176_65, i176_68, i176_69, i176_70, i176_73, i176_74, i176_77, i176_80, i176_81, i176_84, i176_85, i176_86, i176_89, i176_e, c_in, c_isAhead, c_isSheet, c_areRight, bi_eq0, decide_true, decide_false, and_self, if_true, if_false, reduceCtorEq, not_true_eq_false, not_false_eq_true, mx_k0, mx_t0, fa_wide_le, Option.toList_some, Option.toList_none, List.nil_append, List.cons_append, true_and, and_true, eq_self, true_or, or_true, bi_01, mx_nl_i, mx_nl_r, mx_nl_n, mx_nl_f, mx_nl_d, lj0a, lj0b, lj1a, lj1b, lj2a, lj2b, lj3a, lj3b, lj4a, lj4b, lj5a, lj5b, lj6a, lj6b, lj7a, lj7b, lj8a, lj8b, lj9a, lj9b, lj10a, lj10b, lj11a, lj11b, lj12a, lj12b, lj13a, lj13b, lj14a, lj14b, lj15a, lj15b, lj16a, lj16b, lj17a, lj17b, lj18a, lj18b, lj19a, lj19b, ob_co r.o, c_f1 r, c_f2 r, c_f3 r, c_f4 r, c_f5 r, mo_gk r.o, mo_gv r.o, c_isSeller r.o r.g0, c_isSort r.o r.g0, ar_ik r.g0, ar_ia r.g0, ar_is r.g0, c0, c1, c2]
    all_goals exact hf
  rw [if_pos hc] at k
  obtain ⟨c0, c1, c2⟩ := hc
  simp only [i176_0, i176_1, i176_4, i176_7, i176_8, i176_9, i176_12, i176_15, i176_16, i176_17, i176_18, i176_21, i176_24, i176_27, i176_28, i176_29, i176_32, i176_33, i176_34, i176_35, i176_38, i176_39, i176_41, i176_44, i176_45, i176_48, i176_49, i176_52, i176_53, i176_56, i176_59, i176_62, i176_63, i176_65, i176_68, i176_69, i176_70, i176_73, i176_74, i176_77, i176_80, i176_81, i176_84, i176_85, i176_86, i176_89, i176_e, c_in, c_isAhead, c_isSheet, c_areRight, bi_eq0, decide_true, decide_false, and_self, if_true, if_false, reduceCtorEq, not_true_eq_false, not_false_eq_true, mx_k0, mx_t0, fa_wide_le, Option.toList_some, Option.toList_none, List.nil_append, List.cons_append, true_and, and_true, eq_self, true_or, or_true, bi_01, mx_nl_i, mx_nl_r, mx_nl_n, mx_nl_f, mx_nl_d, lj0a, lj0b, lj1a, lj1b, lj2a, lj2b, lj3a, lj3b, lj4a, lj4b, lj5a, lj5b, lj6a, lj6b, lj7a, lj7b, lj8a, lj8b, lj9a, lj9b, lj10a, lj10b, lj11a, lj11b, lj12a, lj12b, lj13a, lj13b, lj14a, lj14b, lj15a, lj15b, lj16a, lj16b, lj17a, lj17b, lj18a, lj18b, lj19a, lj19b, ob_co r.o, c_f1 r, c_f2 r, c_f3 r, c_f4 r, c_f5 r, mo_gk r.o, mo_gv r.o, c_isSeller r.o r.g0, c_isSort r.o r.g0, ar_ik r.g0, ar_ia r.g0, ar_is r.g0, c0, c1, c2]
  have c1' := c1
  rw [e1] at c1'
  obtain ⟨s, hs, rfl⟩ := nI_sel (by omega) c1'
  obtain ⟨w, hw, rfl⟩ := nI_rng (k := 8) (by decide) c2
  obtain ⟨N, hN, rfl⟩ := nI_rng (k := 60) (by decide) c0
  rw [nI_clamp (show N < 2 ^ 31 by omega), nI_clamp (show s < 2 ^ 31 by omega)] at k
  have hs6 : s < 6 := by omega
  refine c_ahead r ok (by omega) (fun h1 A1 r1 fr s2 ea => ?_)
  have e0 : A1 0 = A 0 := s2 0 (by decide) (by decide) (by decide) (by decide)
  have z1 : Z_ (A1 1) := by rw [ea]; exact fw_z ok ok.1.2.2.2.1 N
  have kk := fun (h' : MXH) (A' : Nat → Nat → Int32) (r' : RW h' v A') (f : FR h h') (s : S2 1 A A') (z : Z_ (A' 1)) => k.s2 r' f s z
  unfold osf_ at kk
  by_cases c7 : (nI w : Int32) = 7
  · simp only [c7, if_true] at kk
    simp only [i176_0, i176_1, i176_4, i176_7, i176_8, i176_9, i176_12, i176_15, i176_16, i176_17, i176_18, i176_21, i176_24, i176_27, i176_28, i176_29, i176_32, i176_33, i176_34, i176_35, i176_38, i176_39, i176_41, i176_44, i176_45, i176_48, i176_49, i176_52, i176_53, i176_56, i176_59, i176_62, i176_63, i176_65, i176_68, i176_69, i176_70, i176_73, i176_74, i176_77, i176_80, i176_81, i176_84, i176_85, i176_86, i176_89, i176_e, c_in, c_isAhead, c_isSheet, c_areRight, bi_eq0, decide_true, decide_false, and_self, if_true, if_false, reduceCtorEq, not_true_eq_false, not_false_eq_true, mx_k0, mx_t0, fa_wide_le, Option.toList_some, Option.toList_none, List.nil_append, List.cons_append, true_and, and_true, eq_self, true_or, or_true, bi_01, mx_nl_i, mx_nl_r, mx_nl_n, mx_nl_f, mx_nl_d, lj0a, lj0b, lj1a, lj1b, lj2a, lj2b, lj3a, lj3b, lj4a, lj4b, lj5a, lj5b, lj6a, lj6b, lj7a, lj7b, lj8a, lj8b, lj9a, lj9b, lj10a, lj10b, lj11a, lj11b, lj12a, lj12b, lj13a, lj13b, lj14a, lj14b, lj15a, lj15b, lj16a, lj16b, lj17a, lj17b, lj18a, lj18b, lj19a, lj19b, mo_gk r1.o, mo_gv r1.o, c7, c_would r1.g1 hs6, c_held, ea]
    exact kk h1 A1 r1 fr s2 z1
  · by_cases c8 : (nI w : Int32) = 8
    · simp only [c8, show ¬ ((8 : Int32) = 7) from by decide, if_true, if_false] at kk
      simp only [i176_0, i176_1, i176_4, i176_7, i176_8, i176_9, i176_12, i176_15, i176_16, i176_17, i176_18, i176_21, i176_24, i176_27, i176_28, i176_29, i176_32, i176_33, i176_34, i176_35, i176_38, i176_39, i176_41, i176_44, i176_45, i176_48, i176_49, i176_52, i176_53, i176_56, i176_59, i176_62, i176_63, i176_65, i176_68, i176_69, i176_70, i176_73, i176_74, i176_77, i176_80, i176_81, i176_84, i176_85, i176_86, i176_89, i176_e, c_in, c_isAhead, c_isSheet, c_areRight, bi_eq0, decide_true, decide_false, and_self, if_true, if_false, reduceCtorEq, not_true_eq_false, not_false_eq_true, mx_k0, mx_t0, fa_wide_le, Option.toList_some, Option.toList_none, List.nil_append, List.cons_append, true_and, and_true, eq_self, true_or, or_true, bi_01, mx_nl_i, mx_nl_r, mx_nl_n, mx_nl_f, mx_nl_d, lj0a, lj0b, lj1a, lj1b, lj2a, lj2b, lj3a, lj3b, lj4a, lj4b, lj5a, lj5b, lj6a, lj6b, lj7a, lj7b, lj8a, lj8b, lj9a, lj9b, lj10a, lj10b, lj11a, lj11b, lj12a, lj12b, lj13a, lj13b, lj14a, lj14b, lj15a, lj15b, lj16a, lj16b, lj17a, lj17b, lj18a, lj18b, lj19a, lj19b, mo_gk r1.o, mo_gv r1.o, ob_co r1.o, c8, show ¬ ((8 : Int32) = 7) from by decide]
      refine c_asks r1 (by rw [e0]; exact ok.1.2.1) (ai := 1) (by decide) hs6 (fun h' A' r' fr' sc => ?_)
      simp only [i176_0, i176_1, i176_4, i176_7, i176_8, i176_9, i176_12, i176_15, i176_16, i176_17, i176_18, i176_21, i176_24, i176_27, i176_28, i176_29, i176_32, i176_33, i176_34, i176_35, i176_38, i176_39, i176_41, i176_44, i176_45, i176_48, i176_49, i176_52, i176_53, i176_56, i176_59, i176_62, i176_63, i176_65, i176_68, i176_69, i176_70, i176_73, i176_74, i176_77, i176_80, i176_81, i176_84, i176_85, i176_86, i176_89, i176_e, c_in, c_isAhead, c_isSheet, c_areRight, bi_eq0, decide_true, decide_false, and_self, if_true, if_false, reduceCtorEq, not_true_eq_false, not_false_eq_true, mx_k0, mx_t0, fa_wide_le, Option.toList_some, Option.toList_none, List.nil_append, List.cons_append, true_and, and_true, eq_self, true_or, or_true, bi_01, mx_nl_i, mx_nl_r, mx_nl_n, mx_nl_f, mx_nl_d, lj0a, lj0b, lj1a, lj1b, lj2a, lj2b, lj3a, lj3b, lj4a, lj4b, lj5a, lj5b, lj6a, lj6b, lj7a, lj7b, lj8a, lj8b, lj9a, lj9b, lj10a, lj10b, lj11a, lj11b, lj12a, lj12b, lj13a, lj13b, lj14a, lj14b, lj15a, lj15b, lj16a, lj16b, lj17a, lj17b, lj18a, lj18b, lj19a, lj19b, e0, ea]
      exact kk h' A' r' (fr.tr fr') (s2.tr sc.s2) (by rw [sc 1 (by decide) (by decide)]; exact z1)
    · simp only [c7, c8, if_false, nI_clamp (show w < 2 ^ 31 by omega)] at kk
      have hw7 : w < 7 := by
        have : w ≠ 7 := fun e => c7 (by rw [e]; rfl)
        have : w ≠ 8 := fun e => c8 (by rw [e]; rfl)
        omega
      simp only [i176_0, i176_1, i176_4, i176_7, i176_8, i176_9, i176_12, i176_15, i176_16, i176_17, i176_18, i176_21, i176_24, i176_27, i176_28, i176_29, i176_32, i176_33, i176_34, i176_35, i176_38, i176_39, i176_41, i176_44, i176_45, i176_48, i176_49, i176_52, i176_53, i176_56, i176_59, i176_62, i176_63, i176_65, i176_68, i176_69, i176_70, i176_73, i176_74, i176_77, i176_80, i176_81, i176_84, i176_85, i176_86, i176_89, i176_e, c_in, c_isAhead, c_isSheet, c_areRight, bi_eq0, decide_true, decide_false, and_self, if_true, if_false, reduceCtorEq, not_true_eq_false, not_false_eq_true, mx_k0, mx_t0, fa_wide_le, Option.toList_some, Option.toList_none, List.nil_append, List.cons_append, true_and, and_true, eq_self, true_or, or_true, bi_01, mx_nl_i, mx_nl_r, mx_nl_n, mx_nl_f, mx_nl_d, lj0a, lj0b, lj1a, lj1b, lj2a, lj2b, lj3a, lj3b, lj4a, lj4b, lj5a, lj5b, lj6a, lj6b, lj7a, lj7b, lj8a, lj8b, lj9a, lj9b, lj10a, lj10b, lj11a, lj11b, lj12a, lj12b, lj13a, lj13b, lj14a, lj14b, lj15a, lj15b, lj16a, lj16b, lj17a, lj17b, lj18a, lj18b, lj19a, lj19b, mo_gk r1.o, mo_gv r1.o, c7, c8, c_seg r1.g1 hs6 (show w < 8 by omega), ea]
      exact kk h1 A1 r1 fr s2 z1
/-- waits -/
def sp_waits (v : Nat → Int32) (A : Nat → Nat → Int32) (n a : Int32) : PR := if (0 ≤ n ∧ n ≤ 60) ∧ (0 ≤ a ∧ a ≤ A 0 2 - 1) then (fw_ A (A 0) n.toNatClampNeg (70 + 4 * a.toNatClampNeg + 3), v, A) else er_ v A 1
theorem r_waits (r : RW h v A) (ok : OK v A) {n a : Int32} (k : KR h (sp_waits v A n a) Q) : ev_ X (d + 9) 177 [.ref 96, .int n, .int a] h Q := by
  obtain ⟨ns, nb, hns, hnb, e1, e2, -⟩ := ok.1.1
  unfold sp_waits at k
  by_cases hc : (0 ≤ n ∧ n ≤ 60) ∧ (0 ≤ a ∧ a ≤ A 0 2 - 1)
  case neg =>
    rw [if_neg hc] at k
    have hf := k.er r ok
    by_cases c0 : (0 ≤ n ∧ n ≤ 60) <;> by_cases c1 : (0 ≤ a ∧ a ≤ A 0 2 - 1)
    · exact False.elim (hc ⟨c0, c1⟩)
    all_goals simp only [i177_0, i177_1, i177_4, i177_7, i177_8, i177_9, i177_12, i177_15, i177_16, i177_17, i177_20, i177_21, i177_22, i177_23, i177_26, i177_27, i177_30, i177_31, i177_32, i177_35, i177_e, c_in, c_isAhead, c_isSheet, c_areRight, bi_eq0, decide_true, decide_false, and_self, if_true, if_false, reduceCtorEq, not_true_eq_false, not_false_eq_true, mx_k0, mx_t0, fa_wide_le, Option.toList_some, Option.toList_none, List.nil_append, List.cons_append, true_and, and_true, eq_self, true_or, or_true, bi_01, mx_nl_i, mx_nl_r, mx_nl_n, mx_nl_f, mx_nl_d, lj0a, lj0b, lj1a, lj1b, lj2a, lj2b, lj3a, lj3b, lj4a, lj4b, lj5a, lj5b, lj6a, lj6b, lj7a, lj7b, lj8a, lj8b, lj9a, lj9b, lj10a, lj10b, lj11a, lj11b, lj12a, lj12b, lj13a, lj13b, lj14a, lj14b, lj15a, lj15b, lj16a, lj16b, lj17a, lj17b, lj18a, lj18b, lj19a, lj19b, ob_co r.o, c_f1 r, c_f2 r, c_f3 r, c_f4 r, c_f5 r, mo_gk r.o, mo_gv r.o, c_isSeller r.o r.g0, c_isSort r.o r.g0, ar_ik r.g0, ar_ia r.g0, ar_is r.g0, c0, c1]
    all_goals exact hf
  rw [if_pos hc] at k
  obtain ⟨c0, c1⟩ := hc
  simp only [i177_0, i177_1, i177_4, i177_7, i177_8, i177_9, i177_12, i177_15, i177_16, i177_17, i177_20, i177_21, i177_22, i177_23, i177_26, i177_27, i177_30, i177_31, i177_32, i177_35, i177_e, c_in, c_isAhead, c_isSheet, c_areRight, bi_eq0, decide_true, decide_false, and_self, if_true, if_false, reduceCtorEq, not_true_eq_false, not_false_eq_true, mx_k0, mx_t0, fa_wide_le, Option.toList_some, Option.toList_none, List.nil_append, List.cons_append, true_and, and_true, eq_self, true_or, or_true, bi_01, mx_nl_i, mx_nl_r, mx_nl_n, mx_nl_f, mx_nl_d, lj0a, lj0b, lj1a, lj1b, lj2a, lj2b, lj3a, lj3b, lj4a, lj4b, lj5a, lj5b, lj6a, lj6b, lj7a, lj7b, lj8a, lj8b, lj9a, lj9b, lj10a, lj10b, lj11a, lj11b, lj12a, lj12b, lj13a, lj13b, lj14a, lj14b, lj15a, lj15b, lj16a, lj16b, lj17a, lj17b, lj18a, lj18b, lj19a, lj19b, ob_co r.o, c_f1 r, c_f2 r, c_f3 r, c_f4 r, c_f5 r, mo_gk r.o, mo_gv r.o, c_isSeller r.o r.g0, c_isSort r.o r.g0, ar_ik r.g0, ar_ia r.g0, ar_is r.g0, c0, c1]
  have c1' := c1
  rw [e2] at c1'
  obtain ⟨s, hs, rfl⟩ := nI_sel (by omega) c1'
  obtain ⟨N, hN, rfl⟩ := nI_rng (k := 60) (by decide) c0
  rw [nI_clamp (show N < 2 ^ 31 by omega), nI_clamp (show s < 2 ^ 31 by omega)] at k
  refine c_ahead r ok (by omega) (fun h1 A1 r1 fr s2 ea => ?_)
  simp only [i177_0, i177_1, i177_4, i177_7, i177_8, i177_9, i177_12, i177_15, i177_16, i177_17, i177_20, i177_21, i177_22, i177_23, i177_26, i177_27, i177_30, i177_31, i177_32, i177_35, i177_e, c_in, c_isAhead, c_isSheet, c_areRight, bi_eq0, decide_true, decide_false, and_self, if_true, if_false, reduceCtorEq, not_true_eq_false, not_false_eq_true, mx_k0, mx_t0, fa_wide_le, Option.toList_some, Option.toList_none, List.nil_append, List.cons_append, true_and, and_true, eq_self, true_or, or_true, bi_01, mx_nl_i, mx_nl_r, mx_nl_n, mx_nl_f, mx_nl_d, lj0a, lj0b, lj1a, lj1b, lj2a, lj2b, lj3a, lj3b, lj4a, lj4b, lj5a, lj5b, lj6a, lj6b, lj7a, lj7b, lj8a, lj8b, lj9a, lj9b, lj10a, lj10b, lj11a, lj11b, lj12a, lj12b, lj13a, lj13b, lj14a, lj14b, lj15a, lj15b, lj16a, lj16b, lj17a, lj17b, lj18a, lj18b, lj19a, lj19b, mo_gk r1.o, mo_gv r1.o, c_so3 r1.g1 (show s < 8 by omega), ea]
  exact k.s2 r1 fr s2 (by rw [ea]; exact fw_z ok ok.1.2.2.2.1 N)
/-- earned -/
theorem c_eIn_l {a ns : Nat} {m : Nat → Int32} (ha : h[a]? = some (.inl (0, 280, .inl m))) (hns : ns ≤ 6) (e1 : m 1 = nI ns) : ∀ n k, k + n = ns → ex_ X (d + 1) 178 4 [.ref a, .int (sm_ m 20 8 5 k), .int (nI k)] [] h Q = Q (some (.int (sm_ m 20 8 5 ns))) h := by
  intro n
  induction n with
  | zero =>
    intro k hk
    have e : k = ns := by omega
    subst e
    rw [i178_4]
    simp only [i178_0, i178_1, i178_2, i178_3, i178_5, i178_6, i178_7, i178_8, i178_11, i178_12, i178_13, i178_14, i178_15, i178_18, i178_19, i178_20, i178_23, i178_26, i178_27, i178_e, c_in, c_isAhead, c_isSheet, c_areRight, bi_eq0, decide_true, decide_false, and_self, if_true, if_false, reduceCtorEq, not_true_eq_false, not_false_eq_true, mx_k0, mx_t0, fa_wide_le, Option.toList_some, Option.toList_none, List.nil_append, List.cons_append, true_and, and_true, eq_self, true_or, or_true, bi_01, mx_nl_i, mx_nl_r, mx_nl_n, mx_nl_f, mx_nl_d, lj0a, lj0b, lj1a, lj1b, lj2a, lj2b, lj3a, lj3b, lj4a, lj4b, lj5a, lj5b, lj6a, lj6b, lj7a, lj7b, lj8a, lj8b, lj9a, lj9b, lj10a, lj10b, lj11a, lj11b, lj12a, lj12b, lj13a, lj13b, lj14a, lj14b, lj15a, lj15b, lj16a, lj16b, lj17a, lj17b, lj18a, lj18b, lj19a, lj19b, ar_ik ha, ar_ia ha, e1, Int32.le_refl]
  | succ n ih =>
    intro k hk
    have hc : ¬ ((nI ns : Int32) ≤ nI k) := by rw [nI_leI (by omega) (by omega)]; omega
    have ih := ih (k + 1) (by omega)
    simp only [sm_] at ih
    rw [i178_4]
    simp only [i178_0, i178_1, i178_2, i178_3, i178_5, i178_6, i178_7, i178_8, i178_11, i178_12, i178_13, i178_14, i178_15, i178_18, i178_19, i178_20, i178_23, i178_26, i178_27, i178_e, c_in, c_isAhead, c_isSheet, c_areRight, bi_eq0, decide_true, decide_false, and_self, if_true, if_false, reduceCtorEq, not_true_eq_false, not_false_eq_true, mx_k0, mx_t0, fa_wide_le, Option.toList_some, Option.toList_none, List.nil_append, List.cons_append, true_and, and_true, eq_self, true_or, or_true, bi_01, mx_nl_i, mx_nl_r, mx_nl_n, mx_nl_f, mx_nl_d, lj0a, lj0b, lj1a, lj1b, lj2a, lj2b, lj3a, lj3b, lj4a, lj4b, lj5a, lj5b, lj6a, lj6b, lj7a, lj7b, lj8a, lj8b, lj9a, lj9b, lj10a, lj10b, lj11a, lj11b, lj12a, lj12b, lj13a, lj13b, lj14a, lj14b, lj15a, lj15b, lj16a, lj16b, lj17a, lj17b, lj18a, lj18b, lj19a, lj19b, ar_ik ha, ar_ia ha, e1, hc, c_se5 ha (show k < 6 by omega), nI_1]
    exact ih
theorem c_eIn {a ns : Nat} {m : Nat → Int32} (ha : h[a]? = some (.inl (0, 280, .inl m))) (hns : ns ≤ 6) (e1 : m 1 = nI ns) : ev_ X (d + 1) 178 [.ref a] h Q = Q (some (.int (sm_ m 20 8 5 ns))) h := by
  have h0 := c_eIn_l (X := X) (d := d) (Q := Q) ha hns e1 ns 0 (by omega)
  simp only [i178_0, i178_1, i178_2, i178_3, i178_5, i178_6, i178_7, i178_8, i178_11, i178_12, i178_13, i178_14, i178_15, i178_18, i178_19, i178_20, i178_23, i178_26, i178_27, i178_e, true_and, and_true, eq_self, true_or, or_true, bi_01, mx_nl_i, mx_nl_r, mx_nl_n, mx_nl_f, mx_nl_d]
  exact h0
theorem fw_md (ok : OK v A) {m : Nat → Int32} (md : MD m (nsA A) (nbA A)) (n : Nat) : MD (fw_ A m n) (nsA A) (nbA A) := md.gon n
def sp_earned (v : Nat → Int32) (A : Nat → Nat → Int32) (n : Int32) : PR := if (0 ≤ n ∧ n ≤ 60) then (sm_ (fw_ A (A 0) n.toNatClampNeg) 20 8 5 (nsA A), v, A) else er_ v A 1
theorem r_earned (r : RW h v A) (ok : OK v A) {n : Int32} (k : KR h (sp_earned v A n) Q) : ev_ X (d + 9) 179 [.ref 96, .int n] h Q := by
  unfold sp_earned at k
  by_cases c0 : (0 ≤ n ∧ n ≤ 60)
  case neg =>
    rw [if_neg c0] at k
    simp only [i179_0, i179_1, i179_4, i179_7, i179_8, i179_9, i179_12, i179_13, i179_14, i179_15, i179_18, i179_19, i179_22, i179_25, i179_e, c_in, c_isAhead, c_isSheet, c_areRight, bi_eq0, decide_true, decide_false, and_self, if_true, if_false, reduceCtorEq, not_true_eq_false, not_false_eq_true, mx_k0, mx_t0, fa_wide_le, Option.toList_some, Option.toList_none, List.nil_append, List.cons_append, true_and, and_true, eq_self, true_or, or_true, bi_01, mx_nl_i, mx_nl_r, mx_nl_n, mx_nl_f, mx_nl_d, lj0a, lj0b, lj1a, lj1b, lj2a, lj2b, lj3a, lj3b, lj4a, lj4b, lj5a, lj5b, lj6a, lj6b, lj7a, lj7b, lj8a, lj8b, lj9a, lj9b, lj10a, lj10b, lj11a, lj11b, lj12a, lj12b, lj13a, lj13b, lj14a, lj14b, lj15a, lj15b, lj16a, lj16b, lj17a, lj17b, lj18a, lj18b, lj19a, lj19b, ob_co r.o, c_f1 r, c_f2 r, c_f3 r, c_f4 r, c_f5 r, mo_gk r.o, mo_gv r.o, c_isSeller r.o r.g0, c_isSort r.o r.g0, ar_ik r.g0, ar_ia r.g0, ar_is r.g0, c0]
    exact k.er r ok
  rw [if_pos c0] at k
  simp only [i179_0, i179_1, i179_4, i179_7, i179_8, i179_9, i179_12, i179_13, i179_14, i179_15, i179_18, i179_19, i179_22, i179_25, i179_e, c_in, c_isAhead, c_isSheet, c_areRight, bi_eq0, decide_true, decide_false, and_self, if_true, if_false, reduceCtorEq, not_true_eq_false, not_false_eq_true, mx_k0, mx_t0, fa_wide_le, Option.toList_some, Option.toList_none, List.nil_append, List.cons_append, true_and, and_true, eq_self, true_or, or_true, bi_01, mx_nl_i, mx_nl_r, mx_nl_n, mx_nl_f, mx_nl_d, lj0a, lj0b, lj1a, lj1b, lj2a, lj2b, lj3a, lj3b, lj4a, lj4b, lj5a, lj5b, lj6a, lj6b, lj7a, lj7b, lj8a, lj8b, lj9a, lj9b, lj10a, lj10b, lj11a, lj11b, lj12a, lj12b, lj13a, lj13b, lj14a, lj14b, lj15a, lj15b, lj16a, lj16b, lj17a, lj17b, lj18a, lj18b, lj19a, lj19b, ob_co r.o, c_f1 r, c_f2 r, c_f3 r, c_f4 r, c_f5 r, mo_gk r.o, mo_gv r.o, c_isSeller r.o r.g0, c_isSort r.o r.g0, ar_ik r.g0, ar_ia r.g0, ar_is r.g0, c0]
  obtain ⟨N, hN, rfl⟩ := nI_rng (k := 60) (by decide) c0
  rw [nI_clamp (show N < 2 ^ 31 by omega)] at k
  have md := fw_md (v := v) ok (MD.ab ok.1.1) N
  refine c_ahead r ok (by omega) (fun h1 A1 r1 fr s2 ea => ?_)
  have g1 := r1.g1
  rw [ea] at g1
  simp only [i179_0, i179_1, i179_4, i179_7, i179_8, i179_9, i179_12, i179_13, i179_14, i179_15, i179_18, i179_19, i179_22, i179_25, i179_e, c_in, c_isAhead, c_isSheet, c_areRight, bi_eq0, decide_true, decide_false, and_self, if_true, if_false, reduceCtorEq, not_true_eq_false, not_false_eq_true, mx_k0, mx_t0, fa_wide_le, Option.toList_some, Option.toList_none, List.nil_append, List.cons_append, true_and, and_true, eq_self, true_or, or_true, bi_01, mx_nl_i, mx_nl_r, mx_nl_n, mx_nl_f, mx_nl_d, lj0a, lj0b, lj1a, lj1b, lj2a, lj2b, lj3a, lj3b, lj4a, lj4b, lj5a, lj5b, lj6a, lj6b, lj7a, lj7b, lj8a, lj8b, lj9a, lj9b, lj10a, lj10b, lj11a, lj11b, lj12a, lj12b, lj13a, lj13b, lj14a, lj14b, lj15a, lj15b, lj16a, lj16b, lj17a, lj17b, lj18a, lj18b, lj19a, lj19b, mo_gk r1.o, mo_gv r1.o, c_eIn g1 md.1 md.2.2.1]
  exact k.s2 r1 fr s2 (by rw [ea]; exact fw_z ok ok.1.2.2.2.1 N)
end RD
