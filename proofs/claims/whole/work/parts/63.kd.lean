/-! the component: what is asked, what is told of a seller; sums -/
theorem wd_k {m : Nat → Int32} {s k : Nat} (hk : k ≤ 6) (e : m (20 + 8 * s + 0) = nI k) : wd_ m s = wsk k (m (20 + 8 * s + 1)) (m (20 + 8 * s + 2)) (m (20 + 8 * s + 6)) (m (20 + 8 * s + 4)) := by
  unfold wd_
  rw [e]
  match k, hk with
  | 0, _ =>
    rw [if_neg (show ¬ (nI 0 : Int32) = 1 by decide), if_neg (show ¬ (nI 0 : Int32) = 2 by decide), if_neg (show ¬ (nI 0 : Int32) = 3 by decide), if_neg (show ¬ (nI 0 : Int32) = 4 by decide), if_neg (show ¬ (nI 0 : Int32) = 5 by decide), if_neg (show ¬ (nI 0 : Int32) = 6 by decide), wsk_0]
    unfold pln; rfl
  | 1, _ =>
    rw [if_pos (show (nI 1 : Int32) = 1 from by decide), wsk_1]
    unfold hgh; rfl
  | 2, _ =>
    rw [if_neg (show ¬ (nI 2 : Int32) = 1 by decide), if_pos (show (nI 2 : Int32) = 2 from by decide), wsk_2]
    unfold pln; rfl
  | 3, _ =>
    rw [if_neg (show ¬ (nI 3 : Int32) = 1 by decide), if_neg (show ¬ (nI 3 : Int32) = 2 by decide), if_pos (show (nI 3 : Int32) = 3 from by decide), wsk_3]
    unfold pln; rfl
  | 4, _ =>
    rw [if_neg (show ¬ (nI 4 : Int32) = 1 by decide), if_neg (show ¬ (nI 4 : Int32) = 2 by decide), if_neg (show ¬ (nI 4 : Int32) = 3 by decide), if_pos (show (nI 4 : Int32) = 4 from by decide), wsk_4]
    unfold pln; rfl
  | 5, _ =>
    rw [if_neg (show ¬ (nI 5 : Int32) = 1 by decide), if_neg (show ¬ (nI 5 : Int32) = 2 by decide), if_neg (show ¬ (nI 5 : Int32) = 3 by decide), if_neg (show ¬ (nI 5 : Int32) = 4 by decide), if_pos (show (nI 5 : Int32) = 5 from by decide), wsk_5]
    show (if m (20 + 8 * s + 2) ≤ (if m (20 + 8 * s + 4) < 60 then pln (m (20 + 8 * s + 6)) else pln (m (20 + 8 * s + 6)) - m (20 + 8 * s + 1)) then (if m (20 + 8 * s + 4) < 60 then pln (m (20 + 8 * s + 6)) else pln (m (20 + 8 * s + 6)) - m (20 + 8 * s + 1)) else m (20 + 8 * s + 2)) = _
    generalize (if m (20 + 8 * s + 4) < 60 then pln (m (20 + 8 * s + 6)) else pln (m (20 + 8 * s + 6)) - m (20 + 8 * s + 1)) = q
    by_cases c : m (20 + 8 * s + 2) ≤ q
    · rw [if_pos c, if_neg (Int32.not_lt.mpr c)]
    · rw [if_neg c, if_pos (Int32.not_le.mp c)]
  | 6, _ =>
    rw [if_neg (show ¬ (nI 6 : Int32) = 1 by decide), if_neg (show ¬ (nI 6 : Int32) = 2 by decide), if_neg (show ¬ (nI 6 : Int32) = 3 by decide), if_neg (show ¬ (nI 6 : Int32) = 4 by decide), if_neg (show ¬ (nI 6 : Int32) = 5 by decide), if_pos (show (nI 6 : Int32) = 6 from by decide), wsk_6]
    unfold hgh; rfl
  | n + 7, h => omega
theorem an_k {m : Nat → Int32} {s k : Nat} (hk : k ≤ 6) (e : m (20 + 8 * s + 0) = nI k) : an_ m s = wpk k (m (20 + 8 * s + 1)) (m (20 + 8 * s + 2)) (m (20 + 8 * s + 6)) := by
  unfold an_ wpk
  rw [e]
  have : (nI k : Int32) = 6 ↔ k = 6 := nI_eq (b := 6) (by omega) (by decide)
  simp only [this]
  rfl
section KE
variable {X : MXX} {d : Nat} {h : MXH} {Q : MXP} {b : Nat} {m mi : Nat → Int32} {mr : Nat → Nat → Int32} {mt ms : Nat → Option Nat} {G : MXGf} {ns nb : Nat}
theorem k_would (r : KM h b mi mr mt ms) (q : MR m mi mr ns nb) (mx : MX h m G mt ms ns) (hns : ns ≤ 6) {s : Nat} (hs : s < ns) (k' : ∀ h', FX 0 0 h h' → Q (some (.int (as_ G m s))) h') : ev_ X (d + 3) 18 [.ref b, .int (nI s)] h Q := by
  obtain ⟨a, ea, _, k, hk, ek, ho⟩ := mx.1 s hs
  obtain ⟨q4, q5, q6⟩ := q.2.2.1 s hs
  have i6 : mx_in (nI s) 6 = true := mx_inN (by omega) (by decide)
  have hw := wd_k hk ek
  have ha := an_k hk ek
  unfold as_ at k'
  rw [ha] at k'
  by_cases c : wpk k (m (20 + 8 * s + 1)) (m (20 + 8 * s + 2)) (m (20 + 8 * s + 6)) = true
  · simp only [i18_0, i18_1, i18_4, i18_5, i18_6, i18_7, i18_8, i18_9, i18_12, i18_13, i18_14, i18_15, i18_18, i18_19, i18_23, i18_26, i18_27, i18_30, i18_31, i18_34, i18_35, i18_36, i18_37, i18_38, i18_39, i18_42, i18_43, i18_44, i18_45, i18_48, i18_49, i18_53, i18_56, i18_58, i18_59, i18_60, i18_62, i18_65, i18_68, i18_70, i18_73, i18_74, i18_e, kof_gk r.o, kof_gv r.o, rr_rk r.gS, rr_ra r.gS, i6, nI_clamp (show s < 2 ^ 31 by omega), ea, mxv_s, show (mx_cmp 3).isSome = true from rfl, Bool.and_self, ar_ik r.g6, ar_ia r.g6, ar_ik r.g4, ar_ia r.g4, q4, q6, d18_20 hk ho, d18_50 hk ho, c, show ¬ (bi_ true = 0) from by decide, if_false, k_hPrice, ob_co r.o, Option.toList_some, Option.toList_none, List.nil_append, List.cons_append, true_and, and_true, eq_self, true_or, or_true, bi_01, mx_nl_i, mx_nl_r, mx_nl_n, mx_nl_f, mx_nl_d]
    refine k_may r q mx (fun h' f => ?_)
    have k2 := k' h' f
    rw [if_pos (Or.inl c), hw] at k2
    simp only [i18_0, i18_1, i18_4, i18_5, i18_6, i18_7, i18_8, i18_9, i18_12, i18_13, i18_14, i18_15, i18_18, i18_19, i18_23, i18_26, i18_27, i18_30, i18_31, i18_34, i18_35, i18_36, i18_37, i18_38, i18_39, i18_42, i18_43, i18_44, i18_45, i18_48, i18_49, i18_53, i18_56, i18_58, i18_59, i18_60, i18_62, i18_65, i18_68, i18_70, i18_73, i18_74, i18_e, show ((-1 : Int32) < 0) from by decide, true_or, decide_true, show ¬ (bi_ true = 0) from by decide, if_false, Option.toList_some, Option.toList_none, List.nil_append, List.cons_append, true_and, and_true, eq_self, true_or, or_true, bi_01, mx_nl_i, mx_nl_r, mx_nl_n, mx_nl_f, mx_nl_d]
    exact k2
  · have c' : wpk k (m (20 + 8 * s + 1)) (m (20 + 8 * s + 2)) (m (20 + 8 * s + 6)) = false := by simpa using c
    simp only [i18_0, i18_1, i18_4, i18_5, i18_6, i18_7, i18_8, i18_9, i18_12, i18_13, i18_14, i18_15, i18_18, i18_19, i18_23, i18_26, i18_27, i18_30, i18_31, i18_34, i18_35, i18_36, i18_37, i18_38, i18_39, i18_42, i18_43, i18_44, i18_45, i18_48, i18_49, i18_53, i18_56, i18_58, i18_59, i18_60, i18_62, i18_65, i18_68, i18_70, i18_73, i18_74, i18_e, kof_gk r.o, kof_gv r.o, rr_rk r.gS, rr_ra r.gS, i6, nI_clamp (show s < 2 ^ 31 by omega), ea, mxv_s, show (mx_cmp 3).isSome = true from rfl, Bool.and_self, ar_ik r.g6, ar_ia r.g6, ar_ik r.g4, ar_ia r.g4, q4, q6, d18_20 hk ho, d18_50 hk ho, c', show (bi_ false = 0) from rfl, if_true, k_hPrice, ob_co r.o, Option.toList_some, Option.toList_none, List.nil_append, List.cons_append, true_and, and_true, eq_self, true_or, or_true, bi_01, mx_nl_i, mx_nl_r, mx_nl_n, mx_nl_f, mx_nl_d]
    refine k_may r q mx (fun h' f => ?_)
    have k2 := k' h' f
    have hmy : my_ G m s (hd_ (wd_ m s) 0 999) = decide (m (20 + 8 * s + 6) < 0 ∨ m 11 = 1 ∨ ¬ G 0 (hd_ (wsk k (m (20 + 8 * s + 1)) (m (20 + 8 * s + 2)) (m (20 + 8 * s + 6)) (m (20 + 8 * s + 4))) 0 999) (m (20 + 8 * s + 6)) (m 0) (m 7) = 0) := by
      unfold my_
      rw [hw]
      simp only [decide_eq_decide]
      constructor
      · rintro (h | h | h)
        · exact Or.inr (Or.inl h)
        · exact Or.inl h
        · exact Or.inr (Or.inr h)
      · rintro (h | h | h)
        · exact Or.inr (Or.inl h)
        · exact Or.inl h
        · exact Or.inr (Or.inr h)
    rw [c', hmy, hw] at k2
    by_cases c2 : (m (20 + 8 * s + 6) < 0 ∨ m 11 = 1 ∨ ¬ G 0 (hd_ (wsk k (m (20 + 8 * s + 1)) (m (20 + 8 * s + 2)) (m (20 + 8 * s + 6)) (m (20 + 8 * s + 4))) 0 999) (m (20 + 8 * s + 6)) (m 0) (m 7) = 0)
    · simp only [c2, decide_true, or_true, if_true] at k2
      simp only [i18_0, i18_1, i18_4, i18_5, i18_6, i18_7, i18_8, i18_9, i18_12, i18_13, i18_14, i18_15, i18_18, i18_19, i18_23, i18_26, i18_27, i18_30, i18_31, i18_34, i18_35, i18_36, i18_37, i18_38, i18_39, i18_42, i18_43, i18_44, i18_45, i18_48, i18_49, i18_53, i18_56, i18_58, i18_59, i18_60, i18_62, i18_65, i18_68, i18_70, i18_73, i18_74, i18_e, c2, decide_true, show ¬ (bi_ true = 0) from by decide, if_false, Option.toList_some, Option.toList_none, List.nil_append, List.cons_append, true_and, and_true, eq_self, true_or, or_true, bi_01, mx_nl_i, mx_nl_r, mx_nl_n, mx_nl_f, mx_nl_d]
      exact k2
    · simp only [c2, decide_false, reduceCtorEq, or_self, if_false] at k2
      simp only [i18_0, i18_1, i18_4, i18_5, i18_6, i18_7, i18_8, i18_9, i18_12, i18_13, i18_14, i18_15, i18_18, i18_19, i18_23, i18_26, i18_27, i18_30, i18_31, i18_34, i18_35, i18_36, i18_37, i18_38, i18_39, i18_42, i18_43, i18_44, i18_45, i18_48, i18_49, i18_53, i18_56, i18_58, i18_59, i18_60, i18_62, i18_65, i18_68, i18_70, i18_73, i18_74, i18_e, c2, decide_false, show (bi_ false = 0) from rfl, if_true, Option.toList_some, Option.toList_none, List.nil_append, List.cons_append, true_and, and_true, eq_self, true_or, or_true, bi_01, mx_nl_i, mx_nl_r, mx_nl_n, mx_nl_f, mx_nl_d]
      exact k2
theorem k_ofNow (r : KM h b mi mr mt ms) (q : MR m mi mr ns nb) (mx : MX h m G mt ms ns) (hns : ns ≤ 6) {s w : Nat} (hs : s < ns) (hw8 : w ≤ 8) (k' : ∀ h', FX 0 0 h h' → Q (some (.int (osf_ G m s (nI w)))) h') : ev_ X (d + 4) 14 [.ref b, .int (nI s), .int (nI w)] h Q := by
  obtain ⟨a, ea, _, k, hk, ek, ho⟩ := mx.1 s hs
  obtain ⟨q4, q5, q6⟩ := q.2.2.1 s hs
  have i6 : mx_in (nI s) 6 = true := mx_inN (by omega) (by decide)
  have hw := wd_k hk ek
  have k0 := k' h (FX.rf h)
  have gk : ∀ j, j < 5 → gk_ h a j [(0, 0), (1, 0), (2, 0), (4, 0), (6, 0), (8, 0), (9, 0)] = true := by
    intro j hj
    unfold gk_
    rw [ho]
    match k, hk with
    | 0, _ => match j, hj with
      | 0, _ => rfl
      | 1, _ => rfl
      | 2, _ => rfl
      | 3, _ => rfl
      | 4, _ => rfl
      | n + 5, h => omega
    | 1, _ => match j, hj with
      | 0, _ => rfl
      | 1, _ => rfl
      | 2, _ => rfl
      | 3, _ => rfl
      | 4, _ => rfl
      | n + 5, h => omega
    | 2, _ => match j, hj with
      | 0, _ => rfl
      | 1, _ => rfl
      | 2, _ => rfl
      | 3, _ => rfl
      | 4, _ => rfl
      | n + 5, h => omega
    | 3, _ => match j, hj with
      | 0, _ => rfl
      | 1, _ => rfl
      | 2, _ => rfl
      | 3, _ => rfl
      | 4, _ => rfl
      | n + 5, h => omega
    | 4, _ => match j, hj with
      | 0, _ => rfl
      | 1, _ => rfl
      | 2, _ => rfl
      | 3, _ => rfl
      | 4, _ => rfl
      | n + 5, h => omega
    | 5, _ => match j, hj with
      | 0, _ => rfl
      | 1, _ => rfl
      | 2, _ => rfl
      | 3, _ => rfl
      | 4, _ => rfl
      | n + 5, h => omega
    | 6, _ => match j, hj with
      | 0, _ => rfl
      | 1, _ => rfl
      | 2, _ => rfl
      | 3, _ => rfl
      | 4, _ => rfl
      | n + 5, h => omega
    | n + 7, h => omega
  have gv : gv_ h a 1 = .int (nI k) ∧ gv_ h a 2 = .int (m (20 + 8 * s + 1)) ∧ gv_ h a 3 = .int (m (20 + 8 * s + 2)) ∧ gv_ h a 4 = .int (m (20 + 8 * s + 3)) := by
    unfold gv_
    rw [ho]
    exact ⟨rfl, rfl, rfl, rfl⟩
  match w, hw8 with
  | 0, _ =>
    rw [show (nI 0 : Int32) = 0 from rfl] at k0 ⊢
    simp only [osf_, show ¬ ((0 : Int32) = 7) from by decide, show ¬ ((0 : Int32) = 8) from by decide, if_false, mx_t0, ek] at k0
    simp only [i14_0, i14_1, i14_4, i14_5, i14_6, i14_7, i14_56, i14_57, i14_60, i14_61, i14_62, i14_65, i14_66, i14_67, i14_70, i14_71, i14_72, i14_75, i14_76, i14_77, i14_80, i14_81, i14_82, i14_83, i14_84, i14_87, i14_88, i14_89, i14_90, i14_91, i14_94, i14_95, i14_96, i14_97, i14_98, i14_99, i14_102, i14_103, i14_104, i14_105, i14_108, i14_109, i14_113, i14_116, i14_117, i14_118, i14_119, i14_122, i14_e, i14_8_0, kof_gk r.o, kof_gv r.o, rr_rk r.gS, rr_ra r.gS, i6, nI_clamp (show s < 2 ^ 31 by omega), ea, mxv_s, show (mx_cmp 3).isSome = true from rfl, Bool.and_self, gk 1 (by decide), gv, Option.toList_some, Option.toList_none, List.nil_append, List.cons_append, true_and, and_true, eq_self, true_or, or_true, bi_01, mx_nl_i, mx_nl_r, mx_nl_n, mx_nl_f, mx_nl_d]
    exact k0
  | 1, _ =>
    rw [show (nI 1 : Int32) = 1 from rfl] at k0 ⊢
    simp only [osf_, show ¬ ((1 : Int32) = 7) from by decide, show ¬ ((1 : Int32) = 8) from by decide, if_false, mx_t0] at k0
    simp only [i14_0, i14_1, i14_4, i14_5, i14_6, i14_7, i14_56, i14_57, i14_60, i14_61, i14_62, i14_65, i14_66, i14_67, i14_70, i14_71, i14_72, i14_75, i14_76, i14_77, i14_80, i14_81, i14_82, i14_83, i14_84, i14_87, i14_88, i14_89, i14_90, i14_91, i14_94, i14_95, i14_96, i14_97, i14_98, i14_99, i14_102, i14_103, i14_104, i14_105, i14_108, i14_109, i14_113, i14_116, i14_117, i14_118, i14_119, i14_122, i14_e, i14_8_1, kof_gk r.o, kof_gv r.o, rr_rk r.gS, rr_ra r.gS, i6, nI_clamp (show s < 2 ^ 31 by omega), ea, mxv_s, show (mx_cmp 3).isSome = true from rfl, Bool.and_self, gk 2 (by decide), gv, Option.toList_some, Option.toList_none, List.nil_append, List.cons_append, true_and, and_true, eq_self, true_or, or_true, bi_01, mx_nl_i, mx_nl_r, mx_nl_n, mx_nl_f, mx_nl_d]
    exact k0
  | 2, _ =>
    rw [show (nI 2 : Int32) = 2 from rfl] at k0 ⊢
    simp only [osf_, show ¬ ((2 : Int32) = 7) from by decide, show ¬ ((2 : Int32) = 8) from by decide, if_false, mx_t0] at k0
    simp only [i14_0, i14_1, i14_4, i14_5, i14_6, i14_7, i14_56, i14_57, i14_60, i14_61, i14_62, i14_65, i14_66, i14_67, i14_70, i14_71, i14_72, i14_75, i14_76, i14_77, i14_80, i14_81, i14_82, i14_83, i14_84, i14_87, i14_88, i14_89, i14_90, i14_91, i14_94, i14_95, i14_96, i14_97, i14_98, i14_99, i14_102, i14_103, i14_104, i14_105, i14_108, i14_109, i14_113, i14_116, i14_117, i14_118, i14_119, i14_122, i14_e, i14_8_2, kof_gk r.o, kof_gv r.o, rr_rk r.gS, rr_ra r.gS, i6, nI_clamp (show s < 2 ^ 31 by omega), ea, mxv_s, show (mx_cmp 3).isSome = true from rfl, Bool.and_self, gk 3 (by decide), gv, Option.toList_some, Option.toList_none, List.nil_append, List.cons_append, true_and, and_true, eq_self, true_or, or_true, bi_01, mx_nl_i, mx_nl_r, mx_nl_n, mx_nl_f, mx_nl_d]
    exact k0
  | 3, _ =>
    rw [show (nI 3 : Int32) = 3 from rfl] at k0 ⊢
    simp only [osf_, show ¬ ((3 : Int32) = 7) from by decide, show ¬ ((3 : Int32) = 8) from by decide, if_false, mx_t0] at k0
    simp only [i14_0, i14_1, i14_4, i14_5, i14_6, i14_7, i14_56, i14_57, i14_60, i14_61, i14_62, i14_65, i14_66, i14_67, i14_70, i14_71, i14_72, i14_75, i14_76, i14_77, i14_80, i14_81, i14_82, i14_83, i14_84, i14_87, i14_88, i14_89, i14_90, i14_91, i14_94, i14_95, i14_96, i14_97, i14_98, i14_99, i14_102, i14_103, i14_104, i14_105, i14_108, i14_109, i14_113, i14_116, i14_117, i14_118, i14_119, i14_122, i14_e, i14_8_3, kof_gk r.o, kof_gv r.o, rr_rk r.gS, rr_ra r.gS, i6, nI_clamp (show s < 2 ^ 31 by omega), ea, mxv_s, show (mx_cmp 3).isSome = true from rfl, Bool.and_self, gk 4 (by decide), gv, Option.toList_some, Option.toList_none, List.nil_append, List.cons_append, true_and, and_true, eq_self, true_or, or_true, bi_01, mx_nl_i, mx_nl_r, mx_nl_n, mx_nl_f, mx_nl_d]
    exact k0
  | 4, _ =>
    rw [show (nI 4 : Int32) = 4 from rfl] at k0 ⊢
    simp only [osf_, show ¬ ((4 : Int32) = 7) from by decide, show ¬ ((4 : Int32) = 8) from by decide, if_false, show (4 : Int32).toNatClampNeg = 4 from by decide, ← q4] at k0
    simp only [i14_0, i14_1, i14_4, i14_5, i14_6, i14_7, i14_56, i14_57, i14_60, i14_61, i14_62, i14_65, i14_66, i14_67, i14_70, i14_71, i14_72, i14_75, i14_76, i14_77, i14_80, i14_81, i14_82, i14_83, i14_84, i14_87, i14_88, i14_89, i14_90, i14_91, i14_94, i14_95, i14_96, i14_97, i14_98, i14_99, i14_102, i14_103, i14_104, i14_105, i14_108, i14_109, i14_113, i14_116, i14_117, i14_118, i14_119, i14_122, i14_e, i14_8_4, kof_gk r.o, kof_gv r.o, rr_rk r.gS, rr_ra r.gS, i6, nI_clamp (show s < 2 ^ 31 by omega), ea, mxv_s, show (mx_cmp 3).isSome = true from rfl, Bool.and_self, ar_ik r.g4, ar_ia r.g4, Option.toList_some, Option.toList_none, List.nil_append, List.cons_append, true_and, and_true, eq_self, true_or, or_true, bi_01, mx_nl_i, mx_nl_r, mx_nl_n, mx_nl_f, mx_nl_d]
    exact k0
  | 5, _ =>
    rw [show (nI 5 : Int32) = 5 from rfl] at k0 ⊢
    simp only [osf_, show ¬ ((5 : Int32) = 7) from by decide, show ¬ ((5 : Int32) = 8) from by decide, if_false, show (5 : Int32).toNatClampNeg = 5 from by decide, ← q5] at k0
    simp only [i14_0, i14_1, i14_4, i14_5, i14_6, i14_7, i14_56, i14_57, i14_60, i14_61, i14_62, i14_65, i14_66, i14_67, i14_70, i14_71, i14_72, i14_75, i14_76, i14_77, i14_80, i14_81, i14_82, i14_83, i14_84, i14_87, i14_88, i14_89, i14_90, i14_91, i14_94, i14_95, i14_96, i14_97, i14_98, i14_99, i14_102, i14_103, i14_104, i14_105, i14_108, i14_109, i14_113, i14_116, i14_117, i14_118, i14_119, i14_122, i14_e, i14_8_5, kof_gk r.o, kof_gv r.o, rr_rk r.gS, rr_ra r.gS, i6, nI_clamp (show s < 2 ^ 31 by omega), ea, mxv_s, show (mx_cmp 3).isSome = true from rfl, Bool.and_self, ar_ik r.g5, ar_ia r.g5, Option.toList_some, Option.toList_none, List.nil_append, List.cons_append, true_and, and_true, eq_self, true_or, or_true, bi_01, mx_nl_i, mx_nl_r, mx_nl_n, mx_nl_f, mx_nl_d]
    exact k0
  | 6, _ =>
    rw [show (nI 6 : Int32) = 6 from rfl] at k0 ⊢
    simp only [osf_, show ¬ ((6 : Int32) = 7) from by decide, show ¬ ((6 : Int32) = 8) from by decide, if_false, show (6 : Int32).toNatClampNeg = 6 from by decide, ← q6] at k0
    simp only [i14_0, i14_1, i14_4, i14_5, i14_6, i14_7, i14_56, i14_57, i14_60, i14_61, i14_62, i14_65, i14_66, i14_67, i14_70, i14_71, i14_72, i14_75, i14_76, i14_77, i14_80, i14_81, i14_82, i14_83, i14_84, i14_87, i14_88, i14_89, i14_90, i14_91, i14_94, i14_95, i14_96, i14_97, i14_98, i14_99, i14_102, i14_103, i14_104, i14_105, i14_108, i14_109, i14_113, i14_116, i14_117, i14_118, i14_119, i14_122, i14_e, i14_8_6, kof_gk r.o, kof_gv r.o, rr_rk r.gS, rr_ra r.gS, i6, nI_clamp (show s < 2 ^ 31 by omega), ea, mxv_s, show (mx_cmp 3).isSome = true from rfl, Bool.and_self, ar_ik r.g6, ar_ia r.g6, Option.toList_some, Option.toList_none, List.nil_append, List.cons_append, true_and, and_true, eq_self, true_or, or_true, bi_01, mx_nl_i, mx_nl_r, mx_nl_n, mx_nl_f, mx_nl_d]
    exact k0
  | 7, _ =>
    rw [show (nI 7 : Int32) = 7 from rfl] at k0 ⊢
    simp only [osf_, if_true, hw] at k0
    simp only [i14_0, i14_1, i14_4, i14_5, i14_6, i14_7, i14_56, i14_57, i14_60, i14_61, i14_62, i14_65, i14_66, i14_67, i14_70, i14_71, i14_72, i14_75, i14_76, i14_77, i14_80, i14_81, i14_82, i14_83, i14_84, i14_87, i14_88, i14_89, i14_90, i14_91, i14_94, i14_95, i14_96, i14_97, i14_98, i14_99, i14_102, i14_103, i14_104, i14_105, i14_108, i14_109, i14_113, i14_116, i14_117, i14_118, i14_119, i14_122, i14_e, i14_8_7, kof_gk r.o, kof_gv r.o, rr_rk r.gS, rr_ra r.gS, i6, nI_clamp (show s < 2 ^ 31 by omega), ea, mxv_s, show (mx_cmp 3).isSome = true from rfl, Bool.and_self, ar_ik r.g6, ar_ia r.g6, ar_ik r.g4, ar_ia r.g4, q4, q6, d14_110 hk ho, k_hPrice, Option.toList_some, Option.toList_none, List.nil_append, List.cons_append, true_and, and_true, eq_self, true_or, or_true, bi_01, mx_nl_i, mx_nl_r, mx_nl_n, mx_nl_f, mx_nl_d]
    exact k0
  | 8, _ =>
    rw [show (nI 8 : Int32) = 8 from rfl] at k' ⊢
    simp only [osf_, show ¬ ((8 : Int32) = 7) from by decide, if_false, if_true] at k'
    simp only [i14_0, i14_1, i14_4, i14_5, i14_6, i14_7, i14_56, i14_57, i14_60, i14_61, i14_62, i14_65, i14_66, i14_67, i14_70, i14_71, i14_72, i14_75, i14_76, i14_77, i14_80, i14_81, i14_82, i14_83, i14_84, i14_87, i14_88, i14_89, i14_90, i14_91, i14_94, i14_95, i14_96, i14_97, i14_98, i14_99, i14_102, i14_103, i14_104, i14_105, i14_108, i14_109, i14_113, i14_116, i14_117, i14_118, i14_119, i14_122, i14_e, i14_8_d (x := 8) (by decide), kof_gk r.o, kof_gv r.o, rr_rk r.gS, rr_ra r.gS, i6, nI_clamp (show s < 2 ^ 31 by omega), ea, mxv_s, show (mx_cmp 3).isSome = true from rfl, Bool.and_self, ob_co r.o, Option.toList_some, Option.toList_none, List.nil_append, List.cons_append, true_and, and_true, eq_self, true_or, or_true, bi_01, mx_nl_i, mx_nl_r, mx_nl_n, mx_nl_f, mx_nl_d]
    refine k_would r q mx hns hs (fun h' f => ?_)
    simp only [i14_0, i14_1, i14_4, i14_5, i14_6, i14_7, i14_56, i14_57, i14_60, i14_61, i14_62, i14_65, i14_66, i14_67, i14_70, i14_71, i14_72, i14_75, i14_76, i14_77, i14_80, i14_81, i14_82, i14_83, i14_84, i14_87, i14_88, i14_89, i14_90, i14_91, i14_94, i14_95, i14_96, i14_97, i14_98, i14_99, i14_102, i14_103, i14_104, i14_105, i14_108, i14_109, i14_113, i14_116, i14_117, i14_118, i14_119, i14_122, i14_e, Option.toList_some, Option.toList_none, List.nil_append, List.cons_append, true_and, and_true, eq_self, true_or, or_true, bi_01, mx_nl_i, mx_nl_r, mx_nl_n, mx_nl_f, mx_nl_d]
    exact k' h' f
  | n + 9, h => omega
theorem k_sumP_l (r : KM h b mi mr mt ms) (q : MR m mi mr ns nb) (hns : ns ≤ 6) : ∀ n k, k + n = ns → ex_ X d 25 4 [.ref b, .int (sm_ m 20 8 5 k), .int (nI k)] [] h Q = Q (some (.int (sm_ m 20 8 5 ns))) h := by
  intro n
  induction n with
  | zero =>
    intro k hk
    have e : k = ns := by omega
    subst e
    rw [i25_4]
    simp only [i25_0, i25_1, i25_2, i25_3, i25_5, i25_6, i25_9, i25_12, i25_13, i25_14, i25_17, i25_18, i25_19, i25_20, i25_21, i25_24, i25_27, i25_28, i25_e, kof_gk r.o, kof_gv r.o, q.1.2.2.2.2.1, Int32.le_refl, if_true, true_and, and_true, eq_self, true_or, or_true, bi_01, mx_nl_i, mx_nl_r, mx_nl_n, mx_nl_f, mx_nl_d]
  | succ n ih =>
    intro k hk
    have hc : ¬ ((nI ns : Int32) ≤ nI k) := by rw [nI_leI (by omega) (by omega)]; omega
    have ih := ih (k + 1) (by omega)
    simp only [sm_] at ih
    rw [i25_4]
    simp only [i25_0, i25_1, i25_2, i25_3, i25_5, i25_6, i25_9, i25_12, i25_13, i25_14, i25_17, i25_18, i25_19, i25_20, i25_21, i25_24, i25_27, i25_28, i25_e, kof_gk r.o, kof_gv r.o, q.1.2.2.2.2.1, hc, if_false, ar_ik r.g5, ar_ia r.g5, mx_inN (show k < 6 by omega) (by decide), nI_clamp (show k < 2 ^ 31 by omega), (q.2.2.1 k (by omega)).2.1, nI_1, true_and, and_true, eq_self, true_or, or_true, bi_01, mx_nl_i, mx_nl_r, mx_nl_n, mx_nl_f, mx_nl_d]
    exact ih
theorem k_sumP (r : KM h b mi mr mt ms) (q : MR m mi mr ns nb) (hns : ns ≤ 6) : ev_ X d 25 [.ref b] h Q = Q (some (.int (sm_ m 20 8 5 ns))) h := by
  have h0 := k_sumP_l (X := X) (d := d) (Q := Q) r q hns ns 0 (by omega)
  simp only [i25_0, i25_1, i25_2, i25_3, i25_5, i25_6, i25_9, i25_12, i25_13, i25_14, i25_17, i25_18, i25_19, i25_20, i25_21, i25_24, i25_27, i25_28, i25_e, true_and, and_true, eq_self, true_or, or_true, bi_01, mx_nl_i, mx_nl_r, mx_nl_n, mx_nl_f, mx_nl_d]
  exact h0
theorem k_sumW_l (r : KM h b mi mr mt ms) (q : MR m mi mr ns nb) (hns : nb ≤ 8) : ∀ n k, k + n = nb → ex_ X d 26 4 [.ref b, .int (sm_ m 70 4 3 k), .int (nI k)] [] h Q = Q (some (.int (sm_ m 70 4 3 nb))) h := by
  intro n
  induction n with
  | zero =>
    intro k hk
    have e : k = nb := by omega
    subst e
    rw [i26_4]
    simp only [i26_0, i26_1, i26_2, i26_3, i26_5, i26_6, i26_9, i26_12, i26_13, i26_14, i26_17, i26_18, i26_19, i26_20, i26_21, i26_24, i26_27, i26_28, i26_e, kof_gk r.o, kof_gv r.o, q.1.2.2.2.2.2, Int32.le_refl, if_true, true_and, and_true, eq_self, true_or, or_true, bi_01, mx_nl_i, mx_nl_r, mx_nl_n, mx_nl_f, mx_nl_d]
  | succ n ih =>
    intro k hk
    have hc : ¬ ((nI nb : Int32) ≤ nI k) := by rw [nI_leI (by omega) (by omega)]; omega
    have ih := ih (k + 1) (by omega)
    simp only [sm_] at ih
    rw [i26_4]
    simp only [i26_0, i26_1, i26_2, i26_3, i26_5, i26_6, i26_9, i26_12, i26_13, i26_14, i26_17, i26_18, i26_19, i26_20, i26_21, i26_24, i26_27, i26_28, i26_e, kof_gk r.o, kof_gv r.o, q.1.2.2.2.2.2, hc, if_false, ar_ik r.g11, ar_ia r.g11, mx_inN (show k < 8 by omega) (by decide), nI_clamp (show k < 2 ^ 31 by omega), (q.2.2.2 k (by omega)).2.2.2, nI_1, true_and, and_true, eq_self, true_or, or_true, bi_01, mx_nl_i, mx_nl_r, mx_nl_n, mx_nl_f, mx_nl_d]
    exact ih
theorem k_sumW (r : KM h b mi mr mt ms) (q : MR m mi mr ns nb) (hns : nb ≤ 8) : ev_ X d 26 [.ref b] h Q = Q (some (.int (sm_ m 70 4 3 nb))) h := by
  have h0 := k_sumW_l (X := X) (d := d) (Q := Q) r q hns nb 0 (by omega)
  simp only [i26_0, i26_1, i26_2, i26_3, i26_5, i26_6, i26_9, i26_12, i26_13, i26_14, i26_17, i26_18, i26_19, i26_20, i26_21, i26_24, i26_27, i26_28, i26_e, true_and, and_true, eq_self, true_or, or_true, bi_01, mx_nl_i, mx_nl_r, mx_nl_n, mx_nl_f, mx_nl_d]
  exact h0
set_option maxHeartbeats 1000000 in
theorem k_cheap_l (r : KM h b mi mr mt ms) (q : MR m mi mr ns nb) (hns : ns ≤ 6) : ∀ n j, j + n = ns → ex_ X d 24 4 [.ref b, .int (ch_ m (fun _ => 0) j), .int (nI j)] [] h Q = Q (some (.int (ch_ m (fun _ => 0) ns))) h := by
  intro n
  induction n with
  | zero =>
    intro j hj
    have e : j = ns := by omega
    subst e
    rw [i24_4]
    simp only [i24_0, i24_1, i24_2, i24_3, i24_5, i24_6, i24_9, i24_12, i24_13, i24_16, i24_17, i24_18, i24_21, i24_22, i24_25, i24_26, i24_27, i24_30, i24_31, i24_34, i24_35, i24_38, i24_39, i24_40, i24_41, i24_44, i24_45, i24_46, i24_49, i24_50, i24_51, i24_54, i24_57, i24_58, i24_e, kof_gk r.o, kof_gv r.o, q.1.2.2.2.2.1, Int32.le_refl, if_true, true_and, and_true, eq_self, true_or, or_true, bi_01, mx_nl_i, mx_nl_r, mx_nl_n, mx_nl_f, mx_nl_d]
  | succ n ih =>
    intro j hj
    have hlt : j < 6 := by omega
    have hc : ¬ ((nI ns : Int32) ≤ nI j) := by rw [nI_leI (by omega) (by omega)]; omega
    have ih := ih (j + 1) (by omega)
    have hch := ch_in m (fun _ => 0) j (by omega)
    simp only [ch_] at ih
    have w7 : mx_in (nI j) 6 = true := mx_inN hlt (by decide)
    obtain ⟨q4, q5, q6⟩ := q.2.2.1 j (by omega)
    rw [i24_4]
    by_cases c2 : m (20 + 8 * j + 4) ≤ 0 <;> by_cases c3 : m (20 + 8 * j + 6) < 0
    all_goals have c2' := @Int32.not_le (m (20 + 8 * j + 4)) 0
    all_goals have c3' := @Int32.not_lt (m (20 + 8 * j + 6)) 0
    all_goals simp only [c2, c3, not_true_eq_false, not_false_eq_true, true_iff, false_iff] at c2' c3'
    all_goals simp only [c2', c3', true_and, false_and, and_false, if_false] at ih
    all_goals simp only [i24_0, i24_1, i24_2, i24_3, i24_5, i24_6, i24_9, i24_12, i24_13, i24_16, i24_17, i24_18, i24_21, i24_22, i24_25, i24_26, i24_27, i24_30, i24_31, i24_34, i24_35, i24_38, i24_39, i24_40, i24_41, i24_44, i24_45, i24_46, i24_49, i24_50, i24_51, i24_54, i24_57, i24_58, i24_e, kof_gk r.o, kof_gv r.o, q.1.2.2.2.2.1, hc, ar_ik r.g4, ar_ia r.g4, ar_ik r.g6, ar_ia r.g6, w7, nI_clamp (show j < 2 ^ 31 by omega), q4, q6, c2, c3, if_true, if_false, true_and, and_true, eq_self, true_or, or_true, bi_01, mx_nl_i, mx_nl_r, mx_nl_n, mx_nl_f, mx_nl_d, nI_1]
    all_goals first | exact ih | skip
    rcases hch with he | ⟨s, hs, he, -⟩
    · rw [he] at ih ⊢
      simp only [show ((-1 : Int32) < 0) from by decide, true_or, if_true] at ih ⊢
      exact ih
    · rw [he] at ih ⊢
      have hneg : ¬ (nI s : Int32) < 0 := nI_pos (by omega)
      obtain ⟨s4, s5, s6⟩ := q.2.2.1 s (by omega)
      simp only [hneg, false_or, nI_clamp (show s < 2 ^ 31 by omega), mx_inN (show s < 6 by omega) (show 6 < 2 ^ 31 by decide), s6, if_false, true_and, and_true, eq_self, true_or, or_true, bi_01, mx_nl_i, mx_nl_r, mx_nl_n, mx_nl_f, mx_nl_d] at ih ⊢
      by_cases c4 : m (20 + 8 * s + 6) ≤ m (20 + 8 * j + 6)
      · have c4' := Int32.not_lt.mpr c4
        simp only [c4, c4', if_true, if_false] at ih ⊢
        exact ih
      · have c4' := Int32.not_le.mp c4
        simp only [c4, c4', if_true, if_false] at ih ⊢
        exact ih
theorem k_cheap (r : KM h b mi mr mt ms) (q : MR m mi mr ns nb) (hns : ns ≤ 6) : ev_ X d 24 [.ref b] h Q = Q (some (.int (ch_ m (fun _ => 0) ns))) h := by
  have h0 := k_cheap_l (X := X) (d := d) (Q := Q) r q hns ns 0 (by omega)
  simp only [i24_0, i24_1, i24_2, i24_3, i24_5, i24_6, i24_9, i24_12, i24_13, i24_16, i24_17, i24_18, i24_21, i24_22, i24_25, i24_26, i24_27, i24_30, i24_31, i24_34, i24_35, i24_38, i24_39, i24_40, i24_41, i24_44, i24_45, i24_46, i24_49, i24_50, i24_51, i24_54, i24_57, i24_58, i24_e, true_and, and_true, eq_self, true_or, or_true, bi_01, mx_nl_i, mx_nl_r, mx_nl_n, mx_nl_f, mx_nl_d]
  exact h0
end KE
