/-! the component's calls: gains, images, check -/
section KN1
variable {h h' : MXH} {v : Nat → Int32} {A : Nat → Nat → Int32} {Q : MXP}
theorem kof_pk3z {k b : Nat} {mi : Nat → Int32} (ho : h[b]? = some (.inr (3, kof b mi))) : pk_ k h b 3 (.int 0) [(3, 0)] = true := kof_pk3 (q := false) ho
theorem MR.w3 {m mi : Nat → Int32} {mr : Nat → Nat → Int32} {ns nb : Nat} (q : MR m mi mr ns nb) : MR (upd m 11 1) (upd mi 3 0) mr ns nb := by
  obtain ⟨⟨a1, a2, a3, a4, a5, a6⟩, b, c, e⟩ := q
  refine ⟨⟨by rw [pk_un (by decide), pk_un (by decide)]; exact a1, by rw [pk_un (by decide), pk_un (by decide)]; exact a2, by rw [pk_un (by decide), pk_un (by decide)]; exact a3, by rw [pk_us, pk_us]; rfl, by rw [pk_un (by decide)]; exact a5, by rw [pk_un (by decide)]; exact a6⟩, fun j hj => by rw [pk_un (by omega)]; exact b j hj, fun s hs => ?_, fun s hs => ?_⟩
  · rw [pk_un (by omega), pk_un (by omega), pk_un (by omega)]; exact c s hs
  · rw [pk_un (by omega), pk_un (by omega), pk_un (by omega), pk_un (by omega)]; exact e s hs
/-- one of the markets of cuts alone has changed -/
theorem CW.ct {i : Nat} (c : CW h v A) (hi : i < 3) (f : FX (60 + 12 * i) (72 + 12 * i) h h') (s : MS h' (60 + 12 * i)) : CW h' v A := by
  obtain ⟨c0, c1, c2, c3, c4, c5, c6, c7, c8⟩ := c
  obtain ⟨h1, ⟨cf, h2, h3⟩, ⟨g, h4⟩, ⟨g2, h5⟩, h6⟩ := c8
  refine ⟨c0.fx f (by omega), c1.fx f (by omega), c2.fx f (by omega), c3.fx f (by omega), c4.fx f (by omega), c5.fx f (by omega), c6.fx f (by omega), c7.fx f (by omega), h1.fx f (by omega) (by omega), ⟨cf, by rw [f.2.1 49 (by omega) (by omega)]; exact h2, h3⟩, ⟨g, by rw [f.2.1 50 (by omega) (by omega)]; exact h4⟩, ⟨g2, by rw [f.2.1 51 (by omega) (by omega)]; exact h5⟩, fun j hj => ?_⟩
  by_cases e : j = i
  · subst e; exact s
  · exact (h6 j hj).fx f (by omega) (by omega)
theorem FT.tr0 {lo hi lo' hi' : Nat} {h2 : MXH} (a : FX lo hi h h') (b : FX lo' hi' h' h2) (ha : hi ≤ 96) (hb : hi' ≤ 96) : FT h h2 := ⟨by rw [b.1, a.1]; exact Nat.le_refl _, by rw [b.1, a.1]; exact Nat.le_add_right _ _, fun j h1 h2 => (b.2.1 j h2 (by omega)).trans (a.2.1 j h2 (by omega))⟩
end KN1
section KN2
variable {X : MXX} {d : Nat} {h : MXH} {Q : MXP} {v : Nat → Int32} {A : Nat → Nat → Int32}
theorem k_gains_l {mi mi2 mi3 : Nat → Int32} {mr mr2 mr3 : Nat → Nat → Int32} {mt ms mt2 ms2 mt3 ms3 : Nat → Option Nat} {m m2 m3 : Nat → Int32} {ns nb : Nat} {ci : Nat → Int32} {w1 : Value} (hns : ns ≤ 6) (o : h[0]? = some (.inr (11, cof ci))) (r : KM h 1 mi mr mt ms) (q : MR m mi mr ns nb) (r2 : KM h 60 mi2 mr2 mt2 ms2) (q2 : MR m2 mi2 mr2 ns nb) (r3 : KM h 37 mi3 mr3 mt3 ms3) (q3 : MR m3 mi3 mr3 ns nb) :
    ∀ n k, 1 ≤ k → k + n = ns → ex_ X d 91 66 [.ref 0, w1, .ref 60, .ref 37, .int (nI (gb_ (fun x => m2 (20 + 8 * x + 5)) (fun x => m3 (20 + 8 * x + 5)) k)), .int (nI k)] [] h Q = Q (some (.int (nI (gb_ (fun x => m2 (20 + 8 * x + 5)) (fun x => m3 (20 + 8 * x + 5)) ns)))) h := by
  intro n
  induction n with
  | zero =>
    intro k h1 hk
    have e : k = ns := by omega
    subst e
    rw [i91_66]
    simp only [i91_0, i91_1, i91_4, i91_7, i91_8, i91_9, i91_12, i91_13, i91_14, i91_17, i91_20, i91_23, i91_24, i91_25, i91_28, i91_29, i91_30, i91_33, i91_34, i91_35, i91_36, i91_37, i91_38, i91_41, i91_44, i91_45, i91_46, i91_49, i91_50, i91_51, i91_54, i91_55, i91_56, i91_59, i91_60, i91_61, i91_63, i91_64, i91_68, i91_69, i91_72, i91_75, i91_78, i91_79, i91_82, i91_84, i91_85, i91_86, i91_89, i91_91, i91_92, i91_93, i91_94, i91_97, i91_99, i91_100, i91_101, i91_104, i91_106, i91_107, i91_108, i91_111, i91_113, i91_115, i91_118, i91_121, i91_123, i91_e, cof_gk o, cof_gv o, kof_gk r.o, kof_gv r.o, q.1.2.2.2.2.1, Int32.le_refl, if_true, true_and, and_true, eq_self, true_or, or_true, bi_01, mx_nl_i, mx_nl_r, mx_nl_n, mx_nl_f, mx_nl_d]
  | succ n ih =>
    intro k h1 hk
    have hc : ¬ ((nI ns : Int32) ≤ nI k) := by rw [nI_leI (by omega) (by omega)]; omega
    have ih := ih (k + 1) (by omega) (by omega)
    have hg := gb_lt1 (fun x => m2 (20 + 8 * x + 5)) (fun x => m3 (20 + 8 * x + 5)) k h1
    rw [show gb_ (fun x => m2 (20 + 8 * x + 5)) (fun x => m3 (20 + 8 * x + 5)) (k + 1) = if m2 (20 + 8 * k + 5) - m3 (20 + 8 * k + 5) ≤ m2 (20 + 8 * gb_ (fun x => m2 (20 + 8 * x + 5)) (fun x => m3 (20 + 8 * x + 5)) k + 5) - m3 (20 + 8 * gb_ (fun x => m2 (20 + 8 * x + 5)) (fun x => m3 (20 + 8 * x + 5)) k + 5) then gb_ (fun x => m2 (20 + 8 * x + 5)) (fun x => m3 (20 + 8 * x + 5)) k else k from rfl] at ih
    generalize gb_ (fun x => m2 (20 + 8 * x + 5)) (fun x => m3 (20 + 8 * x + 5)) k = t at ih hg ⊢
    have a1 := (q2.2.2.1 k (by omega)).2.1
    have a2 := (q3.2.2.1 k (by omega)).2.1
    have a3 := (q2.2.2.1 t (by omega)).2.1
    have a4 := (q3.2.2.1 t (by omega)).2.1
    rw [i91_66]
    by_cases c9 : m2 (20 + 8 * k + 5) - m3 (20 + 8 * k + 5) ≤ m2 (20 + 8 * t + 5) - m3 (20 + 8 * t + 5)
    · rw [if_pos c9] at ih
      simp only [i91_0, i91_1, i91_4, i91_7, i91_8, i91_9, i91_12, i91_13, i91_14, i91_17, i91_20, i91_23, i91_24, i91_25, i91_28, i91_29, i91_30, i91_33, i91_34, i91_35, i91_36, i91_37, i91_38, i91_41, i91_44, i91_45, i91_46, i91_49, i91_50, i91_51, i91_54, i91_55, i91_56, i91_59, i91_60, i91_61, i91_63, i91_64, i91_68, i91_69, i91_72, i91_75, i91_78, i91_79, i91_82, i91_84, i91_85, i91_86, i91_89, i91_91, i91_92, i91_93, i91_94, i91_97, i91_99, i91_100, i91_101, i91_104, i91_106, i91_107, i91_108, i91_111, i91_113, i91_115, i91_118, i91_121, i91_123, i91_e, cof_gk o, cof_gv o, kof_gk r.o, kof_gv r.o, q.1.2.2.2.2.1, hc, if_false, kof_gk r2.o, kof_gv r2.o, kof_gk r3.o, kof_gv r3.o, ar_ik r2.g5, ar_ia r2.g5, ar_ik r3.g5, ar_ia r3.g5, mx_inN (show k < 6 by omega) (show 6 < 2 ^ 31 by decide), nI_clamp (show k < 2 ^ 31 by omega), mx_inN (show t < 6 by omega) (show 6 < 2 ^ 31 by decide), nI_clamp (show t < 2 ^ 31 by omega), a1, a2, a3, a4, c9, if_true, nI_1, true_and, and_true, eq_self, true_or, or_true, bi_01, mx_nl_i, mx_nl_r, mx_nl_n, mx_nl_f, mx_nl_d]
      exact ih
    · rw [if_neg c9] at ih
      simp only [i91_0, i91_1, i91_4, i91_7, i91_8, i91_9, i91_12, i91_13, i91_14, i91_17, i91_20, i91_23, i91_24, i91_25, i91_28, i91_29, i91_30, i91_33, i91_34, i91_35, i91_36, i91_37, i91_38, i91_41, i91_44, i91_45, i91_46, i91_49, i91_50, i91_51, i91_54, i91_55, i91_56, i91_59, i91_60, i91_61, i91_63, i91_64, i91_68, i91_69, i91_72, i91_75, i91_78, i91_79, i91_82, i91_84, i91_85, i91_86, i91_89, i91_91, i91_92, i91_93, i91_94, i91_97, i91_99, i91_100, i91_101, i91_104, i91_106, i91_107, i91_108, i91_111, i91_113, i91_115, i91_118, i91_121, i91_123, i91_e, cof_gk o, cof_gv o, kof_gk r.o, kof_gv r.o, q.1.2.2.2.2.1, hc, if_false, kof_gk r2.o, kof_gv r2.o, kof_gk r3.o, kof_gv r3.o, ar_ik r2.g5, ar_ia r2.g5, ar_ik r3.g5, ar_ia r3.g5, mx_inN (show k < 6 by omega) (show 6 < 2 ^ 31 by decide), nI_clamp (show k < 2 ^ 31 by omega), mx_inN (show t < 6 by omega) (show 6 < 2 ^ 31 by decide), nI_clamp (show t < 2 ^ 31 by omega), a1, a2, a3, a4, c9, nI_1, true_and, and_true, eq_self, true_or, or_true, bi_01, mx_nl_i, mx_nl_r, mx_nl_n, mx_nl_f, mx_nl_d]
      exact ih
theorem q_gains (c : CW h v A) (ok : OK v A) {n : Int32} (k : KC h (sp_gains v A n) Q) : ev_ X (d + 9) 91 [.ref 0, .int n] h Q := by
  have cw := c
  obtain ⟨⟨ci, o, z3, z8, z7⟩, c1, c2, c3, c4, c5, c6, ⟨ef, g36, e36⟩, c8⟩ := c
  have md := MD.ab ok.1.1
  have di : DI (A 0) := ⟨ok.1.2.2.2.2.2.2.1, ok.1.2.2.2.2.2.2.2.1⟩
  obtain ⟨mi, mr, mt, ms, r, q, mx⟩ := c1
  replace q : MR (A 0) mi mr (nsA A) (nbA A) := q
  replace mx : MX h (A 0) (G_ (A 0)) mt ms (nsA A) := mx
  have mk : MK h 1 (A 0) (G_ (A 0)) (nsA A) (nbA A) := ⟨mi, mr, mt, ms, r, q, mx⟩
  obtain ⟨hns, hnb, e1, e2, e3⟩ := id md
  have q7 : mi 7 = A 0 1 := by rw [e1]; exact q.1.2.2.2.2.1
  have q12 : mi 12 = A 0 2 := by rw [e2]; exact q.1.2.2.2.2.2
  unfold sp_gains at k
  by_cases c0 : (0 ≤ n ∧ n ≤ 60)
  case neg =>
    rw [if_neg c0] at k
    simp only [i91_0, i91_1, i91_4, i91_7, i91_8, i91_9, i91_12, i91_13, i91_14, i91_17, i91_20, i91_23, i91_24, i91_25, i91_28, i91_29, i91_30, i91_33, i91_34, i91_35, i91_36, i91_37, i91_38, i91_41, i91_44, i91_45, i91_46, i91_49, i91_50, i91_51, i91_54, i91_55, i91_56, i91_59, i91_60, i91_61, i91_63, i91_64, i91_68, i91_69, i91_72, i91_75, i91_78, i91_79, i91_82, i91_84, i91_85, i91_86, i91_89, i91_91, i91_92, i91_93, i91_94, i91_97, i91_99, i91_100, i91_101, i91_104, i91_106, i91_107, i91_108, i91_111, i91_113, i91_115, i91_118, i91_121, i91_123, i91_e, cof_gk o, cof_gv o, ob_co o, k_in, k_isSheet, k_isUse, k_isAhead, bi_eq0, decide_true, decide_false, and_self, if_true, if_false, reduceCtorEq, not_true_eq_false, not_false_eq_true, mx_t0, Option.toList_some, Option.toList_none, List.nil_append, List.cons_append, true_and, and_true, eq_self, true_or, or_true, bi_01, mx_nl_i, mx_nl_r, mx_nl_n, mx_nl_f, mx_nl_d, kof_gk r.o, kof_gv r.o, ob_co r.o, k_isSeller o r q7, k_isSort o r q12, k_e1 o g36, k_e2 o g36, k_e3 o g36, k_e4 o g36, k_e5 o g36, c0]
    exact k.er cw (by decide) (by decide) g36
  rw [if_pos c0] at k
  by_cases c9 : A 0 1 = 0
  · rw [if_pos c9] at k
    simp only [i91_0, i91_1, i91_4, i91_7, i91_8, i91_9, i91_12, i91_13, i91_14, i91_17, i91_20, i91_23, i91_24, i91_25, i91_28, i91_29, i91_30, i91_33, i91_34, i91_35, i91_36, i91_37, i91_38, i91_41, i91_44, i91_45, i91_46, i91_49, i91_50, i91_51, i91_54, i91_55, i91_56, i91_59, i91_60, i91_61, i91_63, i91_64, i91_68, i91_69, i91_72, i91_75, i91_78, i91_79, i91_82, i91_84, i91_85, i91_86, i91_89, i91_91, i91_92, i91_93, i91_94, i91_97, i91_99, i91_100, i91_101, i91_104, i91_106, i91_107, i91_108, i91_111, i91_113, i91_115, i91_118, i91_121, i91_123, i91_e, cof_gk o, cof_gv o, ob_co o, k_in, k_isSheet, k_isUse, k_isAhead, bi_eq0, decide_true, decide_false, and_self, if_true, if_false, reduceCtorEq, not_true_eq_false, not_false_eq_true, mx_t0, Option.toList_some, Option.toList_none, List.nil_append, List.cons_append, true_and, and_true, eq_self, true_or, or_true, bi_01, mx_nl_i, mx_nl_r, mx_nl_n, mx_nl_f, mx_nl_d, kof_gk r.o, kof_gv r.o, ob_co r.o, k_isSeller o r q7, k_isSort o r q12, k_e1 o g36, k_e2 o g36, k_e3 o g36, k_e4 o g36, k_e5 o g36, c0, q7, c9]
    exact k.er cw (by decide) (by decide) g36
  rw [if_neg c9] at k
  have hn1 : 1 ≤ nsA A := by
    apply Nat.pos_of_ne_zero
    intro z
    exact c9 (by rw [e1, z]; rfl)
  obtain ⟨s37, ⟨cf, g49, e49⟩, _, _, s60⟩ := c8
  have m60 : MS h 60 := s60 0 (by decide)
  simp only [i91_0, i91_1, i91_4, i91_7, i91_8, i91_9, i91_12, i91_13, i91_14, i91_17, i91_20, i91_23, i91_24, i91_25, i91_28, i91_29, i91_30, i91_33, i91_34, i91_35, i91_36, i91_37, i91_38, i91_41, i91_44, i91_45, i91_46, i91_49, i91_50, i91_51, i91_54, i91_55, i91_56, i91_59, i91_60, i91_61, i91_63, i91_64, i91_68, i91_69, i91_72, i91_75, i91_78, i91_79, i91_82, i91_84, i91_85, i91_86, i91_89, i91_91, i91_92, i91_93, i91_94, i91_97, i91_99, i91_100, i91_101, i91_104, i91_106, i91_107, i91_108, i91_111, i91_113, i91_115, i91_118, i91_121, i91_123, i91_e, cof_gk o, cof_gv o, ob_co o, k_in, k_isSheet, k_isUse, k_isAhead, bi_eq0, decide_true, decide_false, and_self, if_true, if_false, reduceCtorEq, not_true_eq_false, not_false_eq_true, mx_t0, Option.toList_some, Option.toList_none, List.nil_append, List.cons_append, true_and, and_true, eq_self, true_or, or_true, bi_01, mx_nl_i, mx_nl_r, mx_nl_n, mx_nl_f, mx_nl_d, kof_gk r.o, kof_gv r.o, ob_co r.o, k_isSeller o r q7, k_isSort o r q12, c0, q7, c9, rr_rk g49, rr_ra g49, show mx_in 0 3 = true from by decide, e49 0 (by decide), mxv_s, show 60 + 12 * 0 = 60 from rfl, show (mx_cmp 5).isSome = true from rfl, Bool.and_self, m60.co]
  obtain ⟨N, hN, rfl⟩ := nI_rng (k := 60) (by decide) c0
  rw [nI_clamp (show N < 2 ^ 31 by omega)] at k
  refine k_become (by omega) (by omega) (by omega) hns hnb mk m60 (fun h1 mk1 f1 => ?_)
  obtain ⟨mi1, mr1, mt1, ms1, r1, q1, mx1⟩ := mk1
  have f2 : FX 60 72 h1 (h1.set 60 (.inr (3, kof 60 (upd mi1 3 0)))) := FX.set (by omega) (by omega) (by omega)
  have mk2 : MK (h1.set 60 (.inr (3, kof 60 (upd mi1 3 0)))) 60 (upd (A 0) 11 1) (G_ (A 0)) (nsA A) (nbA A) := ⟨_, mr1, mt1, ms1, r1.sv, q1.w3, (mx1.ev f2.2.2).cg (fun t ht j hj => by rw [pk_un (by omega)])⟩
  simp only [i91_0, i91_1, i91_4, i91_7, i91_8, i91_9, i91_12, i91_13, i91_14, i91_17, i91_20, i91_23, i91_24, i91_25, i91_28, i91_29, i91_30, i91_33, i91_34, i91_35, i91_36, i91_37, i91_38, i91_41, i91_44, i91_45, i91_46, i91_49, i91_50, i91_51, i91_54, i91_55, i91_56, i91_59, i91_60, i91_61, i91_63, i91_64, i91_68, i91_69, i91_72, i91_75, i91_78, i91_79, i91_82, i91_84, i91_85, i91_86, i91_89, i91_91, i91_92, i91_93, i91_94, i91_97, i91_99, i91_100, i91_101, i91_104, i91_106, i91_107, i91_108, i91_111, i91_113, i91_115, i91_118, i91_121, i91_123, i91_e, kof_pk3z r1.o, kof_pf3 r1.o, mk2.co, Option.toList_some, Option.toList_none, List.nil_append, List.cons_append, true_and, and_true, eq_self, true_or, or_true, bi_01, mx_nl_i, mx_nl_r, mx_nl_n, mx_nl_f, mx_nl_d]
  refine k_goBy (by omega) (md.up (by omega)) (di.up (by omega)) (by omega) mk2 (fun h3 mk3 f3 => ?_)
  have f13 : FX 60 72 h h3 := f1.tr (f2.tr f3)
  have o3 : h3[0]? = some (.inr (11, cof ci)) := by rw [f13.2.1 0 (by omega) (by omega)]; exact o
  have cw3 := cw.ct (i := 0) (by decide) f13 mk3.ss
  simp only [i91_0, i91_1, i91_4, i91_7, i91_8, i91_9, i91_12, i91_13, i91_14, i91_17, i91_20, i91_23, i91_24, i91_25, i91_28, i91_29, i91_30, i91_33, i91_34, i91_35, i91_36, i91_37, i91_38, i91_41, i91_44, i91_45, i91_46, i91_49, i91_50, i91_51, i91_54, i91_55, i91_56, i91_59, i91_60, i91_61, i91_63, i91_64, i91_68, i91_69, i91_72, i91_75, i91_78, i91_79, i91_82, i91_84, i91_85, i91_86, i91_89, i91_91, i91_92, i91_93, i91_94, i91_97, i91_99, i91_100, i91_101, i91_104, i91_106, i91_107, i91_108, i91_111, i91_113, i91_115, i91_118, i91_121, i91_123, i91_e, ob_co o3, Option.toList_some, Option.toList_none, List.nil_append, List.cons_append, true_and, and_true, eq_self, true_or, or_true, bi_01, mx_nl_i, mx_nl_r, mx_nl_n, mx_nl_f, mx_nl_d]
  refine k_ahead (A := A) o3 (mk.fx f13 (by omega) (by omega)) (s37.fx f13 (by omega) (by omega)) md di (by omega) (fun h4 mk4 f4 => ?_)
  have o4 : h4[0]? = some (.inr (11, cof ci)) := by rw [f4.2.1 0 (by omega) (by omega)]; exact o3
  have s4 := mk4.ss
  obtain ⟨mi3, mr3, mt3, ms3, r3, q3, mx3⟩ := mk3.fx f4 (by omega) (by omega)
  obtain ⟨mi4, mr4, mt4, ms4, r4, q4, mx4⟩ := mk4
  have r0 := (r.fx f13 (by omega) (by omega)).fx f4 (by omega) (by omega)
  have key := k_gains_l (X := X) (d := d + 9) (Q := Q) (w1 := .int (nI N)) hns o4 r0 q r3 q3 r4 q4 (nsA A - 1) 1 (by omega) (by omega)
  rw [gb_1] at key
  simp only [i91_0, i91_1, i91_4, i91_7, i91_8, i91_9, i91_12, i91_13, i91_14, i91_17, i91_20, i91_23, i91_24, i91_25, i91_28, i91_29, i91_30, i91_33, i91_34, i91_35, i91_36, i91_37, i91_38, i91_41, i91_44, i91_45, i91_46, i91_49, i91_50, i91_51, i91_54, i91_55, i91_56, i91_59, i91_60, i91_61, i91_63, i91_64, i91_68, i91_69, i91_72, i91_75, i91_78, i91_79, i91_82, i91_84, i91_85, i91_86, i91_89, i91_91, i91_92, i91_93, i91_94, i91_97, i91_99, i91_100, i91_101, i91_104, i91_106, i91_107, i91_108, i91_111, i91_113, i91_115, i91_118, i91_121, i91_123, i91_e, Option.toList_some, Option.toList_none, List.nil_append, List.cons_append, true_and, and_true, eq_self, true_or, or_true, bi_01, mx_nl_i, mx_nl_r, mx_nl_n, mx_nl_f, mx_nl_d]
  refine key.mpr ?_
  exact k h4 (cw3.sc f4 s4) (FT.tr0 f13 f4 (by omega) (by omega))
/-- a row becomes another -/
theorem k_rowB {a e n t : Nat} {f : Nat → Int32} (hn : n ≤ 50) (ht : t ≤ n) (da : a + 2 ≤ e ∨ e + 2 ≤ a) (ha : a < 96) (he : e < 94) (src : RO h a n (nI t) f) (dst : RS h e n) (k' : ∀ h', RO h' e n (nI t) f → FX e (e + 2) h h' → Q none h') : ev_ X (d + 1) 39 [.ref e, .ref a] h Q := by
  obtain ⟨w, g, r, eq⟩ := src
  obtain ⟨sz, g2, w2, r2⟩ := dst
  rw [nI_clamp (show t < 2 ^ 31 by omega)] at eq
  have em : (if (nI n : Int32) < nI t then nI n else nI t) = nI t := if_neg (fun z => by rw [nI_ltI (by omega) (by omega)] at z; omega)
  have w3 : (h.set (e + 1) (.inl (0, n, .inl (va_cpy g g2 0 0 t))))[e]? = some (.inr (5, wof (e + 1) sz)) := by rw [List.getElem?_set_ne (by omega)]; exact w2
  have f1 : FX e (e + 2) h ((h.set (e + 1) (.inl (0, n, .inl (va_cpy g g2 0 0 t)))).set e (.inr (5, wof (e + 1) (nI t)))) := (FX.set (by omega) (by omega) (by omega)).tr (FX.set (by omega) (by omega) (by omega))
  have hd : decide ((0 : Int32) ≤ nI t ∧ (0 : Int32) ≤ 0 ∧ (0 : Int32) ≤ 0 ∧ 0 + t ≤ n ∧ 0 + t ≤ n) = true := by
    rw [decide_eq_true_eq]
    exact ⟨nI_pos' (by omega), Int32.le_refl 0, Int32.le_refl 0, by omega, by omega⟩
  simp only [i39_0, i39_1, i39_4, i39_5, i39_9, i39_12, i39_13, i39_14, i39_17, i39_18, i39_19, i39_22, i39_23, i39_24, i39_27, i39_28, i39_29, i39_32, i39_e, i39_8 (ar_al r2), wof_gk w, wof_gv w, wof_gk w2, wof_gv w2, show Int32.ofNat n = nI n from rfl, em, ck_k r2 r, cs_k r2 r, show (0 : Int32).toNatClampNeg = 0 from by decide, nI_clamp (show t < 2 ^ 31 by omega), hd, wof_pk1 w3, wof_pf1 w3, true_and, and_true, eq_self, true_or, or_true, bi_01, mx_nl_i, mx_nl_r, mx_nl_n, mx_nl_f, mx_nl_d]
  refine k' _ ⟨mx_gss (by rw [w3]; rfl), va_cpy g g2 0 0 t, by rw [List.getElem?_set_ne (by omega)]; exact mx_gss (by rw [r2]; rfl), fun j hj => ?_⟩ f1
  rw [nI_clamp (show t < 2 ^ 31 by omega)] at hj
  rw [pk_cpy_in (by omega) (by omega)]
  have := eq j hj
  rw [show 0 + (j - 0) = j by omega]
  exact this
set_option maxHeartbeats 1000000 in
theorem q_image (c : CW h v A) (ok : OK v A) (k : KC h (sp_image v A) Q) : ev_ X (d + 9) 100 [.ref 0] h Q := by
  have cw := c
  obtain ⟨⟨ci, o, z3, z8, z7⟩, c1, c2, c3, c4, c5, c6, ⟨ef, g36, e36⟩, c8⟩ := c
  have md := MD.ab ok.1.1
  have di : DI (A 0) := ⟨ok.1.2.2.2.2.2.2.1, ok.1.2.2.2.2.2.2.2.1⟩
  obtain ⟨mi, mr, mt, ms, r, q, mx⟩ := c1
  replace q : MR (A 0) mi mr (nsA A) (nbA A) := q
  replace mx : MX h (A 0) (G_ (A 0)) mt ms (nsA A) := mx
  have mk : MK h 1 (A 0) (G_ (A 0)) (nsA A) (nbA A) := ⟨mi, mr, mt, ms, r, q, mx⟩
  obtain ⟨hns, hnb, e1, e2, e3⟩ := id md
  have q7 : mi 7 = A 0 1 := by rw [e1]; exact q.1.2.2.2.2.1
  have q12 : mi 12 = A 0 2 := by rw [e2]; exact q.1.2.2.2.2.2
  unfold sp_image at k
  obtain ⟨t9, h9, n9⟩ := ok.1.2.2.2.2.1
  obtain ⟨t10, h10, n10⟩ := ok.1.2.2.2.2.2.1
  obtain ⟨s17, r29, r31, c4x⟩ := c4
  have c2' := c2
  have c3' := c3
  unfold C2 at c2'
  unfold C3 at c3'
  rw [n9] at c2'
  rw [n10] at c3'
  simp only [i100_0, i100_1, i100_4, i100_5, i100_8, i100_11, i100_12, i100_15, i100_16, i100_19, i100_22, i100_23, i100_26, i100_27, i100_30, i100_33, i100_34, i100_35, i100_38, i100_41, i100_42, i100_43, i100_46, i100_47, i100_48, i100_51, i100_52, i100_55, i100_e, cof_gk o, cof_gv o, s17.co, true_and, and_true, eq_self, true_or, or_true, bi_01, mx_nl_i, mx_nl_r, mx_nl_n, mx_nl_f, mx_nl_d]
  refine k_become (by omega) (by omega) (by omega) hns hnb mk s17 (fun h1 mk1 f1 => ?_)
  have o1 : h1[0]? = some (.inr (11, cof ci)) := by rw [f1.2.1 0 (by omega) (by omega)]; exact o
  have r29' := r29.fx f1 (by omega) (by omega)
  have co29 : co_ h1 29 = some 5 := by obtain ⟨_, _, w, _⟩ := r29'; exact ob_co w
  simp only [i100_0, i100_1, i100_4, i100_5, i100_8, i100_11, i100_12, i100_15, i100_16, i100_19, i100_22, i100_23, i100_26, i100_27, i100_30, i100_33, i100_34, i100_35, i100_38, i100_41, i100_42, i100_43, i100_46, i100_47, i100_48, i100_51, i100_52, i100_55, i100_e, cof_gk o1, cof_gv o1, co29, Option.toList_some, Option.toList_none, List.nil_append, List.cons_append, true_and, and_true, eq_self, true_or, or_true, bi_01, mx_nl_i, mx_nl_r, mx_nl_n, mx_nl_f, mx_nl_d]
  refine k_rowB (a := 13) (e := 29) (n := 50) (by omega) h9 (by omega) (by omega) (by omega) (c2'.fx f1 (by omega) (by omega)) r29' (fun h2 ro2 f2 => ?_)
  have o2 : h2[0]? = some (.inr (11, cof ci)) := by rw [f2.2.1 0 (by omega) (by omega)]; exact o1
  have r31' := (r31.fx f1 (by omega) (by omega)).fx f2 (by omega) (by omega)
  have co31 : co_ h2 31 = some 5 := by obtain ⟨_, _, w, _⟩ := r31'; exact ob_co w
  simp only [i100_0, i100_1, i100_4, i100_5, i100_8, i100_11, i100_12, i100_15, i100_16, i100_19, i100_22, i100_23, i100_26, i100_27, i100_30, i100_33, i100_34, i100_35, i100_38, i100_41, i100_42, i100_43, i100_46, i100_47, i100_48, i100_51, i100_52, i100_55, i100_e, cof_gk o2, cof_gv o2, co31, Option.toList_some, Option.toList_none, List.nil_append, List.cons_append, true_and, and_true, eq_self, true_or, or_true, bi_01, mx_nl_i, mx_nl_r, mx_nl_n, mx_nl_f, mx_nl_d]
  refine k_rowB (a := 15) (e := 31) (n := 20) (by omega) h10 (by omega) (by omega) (by omega) ((c3'.fx f1 (by omega) (by omega)).fx f2 (by omega) (by omega)) r31' (fun h3 ro3 f3 => ?_)
  have o3 : h3[0]? = some (.inr (11, cof ci)) := by rw [f3.2.1 0 (by omega) (by omega)]; exact o2
  have os : ∀ w, (h3.set 0 (.inr (11, cof w)))[0]? = some (.inr (11, cof w)) := fun w => mx_gss (by rw [o3]; rfl)
  simp only [i100_0, i100_1, i100_4, i100_5, i100_8, i100_11, i100_12, i100_15, i100_16, i100_19, i100_22, i100_23, i100_26, i100_27, i100_30, i100_33, i100_34, i100_35, i100_38, i100_41, i100_42, i100_43, i100_46, i100_47, i100_48, i100_51, i100_52, i100_55, i100_e, cof_gk o3, cof_gv o3, cof_pk7 o3, cof_pf7 o3, cof_gk (os _), cof_gv (os _), cof_pk8 (os _), cof_pf8 (os _), List.set_set, pk_us, Option.toList_some, Option.toList_none, List.nil_append, List.cons_append, true_and, and_true, eq_self, true_or, or_true, bi_01, mx_nl_i, mx_nl_r, mx_nl_n, mx_nl_f, mx_nl_d]
  rw [show upd ci 7 (ci 3) 8 = ci 8 from pk_un (by decide), z8]
  have f4 : FX 0 1 h3 (h3.set 0 (.inr (11, cof (upd (upd ci 7 (ci 3)) 8 (v 3 + 1))))) := FX.set (by omega) (by omega) (by omega)
  have f13 : FX 17 33 h h3 := (f1.wd (by omega)).tr ((f2.wd (by omega)).tr (f3.wd (by omega)))
  have f14 : FX 0 33 h (h3.set 0 (.inr (11, cof (upd (upd ci 7 (ci 3)) 8 (v 3 + 1))))) := (f13.wd (by omega)).tr (f4.wd (by omega))
  have mk4 := ((mk1.fx f2 (by omega) (by omega)).fx f3 (by omega) (by omega)).fx f4 (by omega) (by omega)
  have ro4 := (ro2.fx f3 (by omega) (by omega)).fx f4 (by omega) (by omega)
  have ro5 := ro3.fx f4 (by omega) (by omega)
  refine k _ ⟨?_, (cw.2.1.fx f13 (by omega)).fx f4 (by omega), (c2.fx f13 (by omega)).fx f4 (by omega), (c3.fx f13 (by omega)).fx f4 (by omega), ?_, c5.fx f14 (by omega), c6.fx f14 (by omega), cw.2.2.2.2.2.2.2.1.fx f14 (by omega), c8.fx f14 (by omega)⟩ (f14.ft (by omega))
  · show C0 _ (up2 A 2 (A 0) 0 8) (upd v 3 (v 3 + 1) 3) (up2 A 2 (A 0) 2 8)
    rw [up2_s, up2_n (by decide), pk_us]
    exact ⟨_, os _, by rw [pk_un (by decide), pk_un (by decide)]; exact z3, by rw [pk_us], fun _ => by rw [pk_un (by decide), pk_us]; exact z3⟩
  · show C4 _ (upd v 3 (v 3 + 1) 3) (up2 A 2 (A 0) 2)
    rw [up2_s, pk_us]
    refine ⟨mk4.ss, ro4.rs, ro5.rs, fun _ => ⟨mk4, ?_, ?_⟩⟩
    · rw [n9]; exact ro4
    · rw [n10]; exact ro5
set_option maxHeartbeats 1000000 in
theorem q_restore (c : CW h v A) (ok : OK v A) (k : KC h (sp_restore v A) Q) : ev_ X (d + 9) 101 [.ref 0] h Q := by
  have cw := c
  obtain ⟨⟨ci, o, z3, z8, z7⟩, c1, c2, c3, c4, c5, c6, ⟨ef, g36, e36⟩, c8⟩ := c
  have md := MD.ab ok.1.1
  have di : DI (A 0) := ⟨ok.1.2.2.2.2.2.2.1, ok.1.2.2.2.2.2.2.2.1⟩
  obtain ⟨mi, mr, mt, ms, r, q, mx⟩ := c1
  replace q : MR (A 0) mi mr (nsA A) (nbA A) := q
  replace mx : MX h (A 0) (G_ (A 0)) mt ms (nsA A) := mx
  have mk : MK h 1 (A 0) (G_ (A 0)) (nsA A) (nbA A) := ⟨mi, mr, mt, ms, r, q, mx⟩
  obtain ⟨hns, hnb, e1, e2, e3⟩ := id md
  have q7 : mi 7 = A 0 1 := by rw [e1]; exact q.1.2.2.2.2.1
  have q12 : mi 12 = A 0 2 := by rw [e2]; exact q.1.2.2.2.2.2
  unfold sp_restore at k
  by_cases c9 : v 3 = 0
  · rw [if_pos c9] at k
    simp only [i101_0, i101_1, i101_4, i101_7, i101_8, i101_9, i101_12, i101_13, i101_14, i101_17, i101_18, i101_21, i101_24, i101_25, i101_28, i101_29, i101_32, i101_35, i101_36, i101_39, i101_40, i101_43, i101_46, i101_47, i101_48, i101_51, i101_54, i101_55, i101_58, i101_61, i101_e, cof_gk o, cof_gv o, ob_co o, k_in, k_isSheet, k_isUse, k_isAhead, bi_eq0, decide_true, decide_false, and_self, if_true, if_false, reduceCtorEq, not_true_eq_false, not_false_eq_true, mx_t0, Option.toList_some, Option.toList_none, List.nil_append, List.cons_append, true_and, and_true, eq_self, true_or, or_true, bi_01, mx_nl_i, mx_nl_r, mx_nl_n, mx_nl_f, mx_nl_d, k_e1 o g36, k_e2 o g36, k_e3 o g36, k_e4 o g36, k_e5 o g36, z8, c9]
    exact k.er cw (by decide) (by decide) g36
  rw [if_neg c9] at k
  have mi2 := ok.2.2.2.1 c9
  obtain ⟨⟨ns2, nb2, hns2, hnb2, a1, a2, _⟩, _, _, _, ⟨t9, h9, n9⟩, ⟨t10, h10, n10⟩, _⟩ := mi2
  obtain ⟨s17, r29, r31, c4x⟩ := id c4
  obtain ⟨mk17, ro29, ro31⟩ := c4x c9
  rw [a1, a2, nI_clamp (show ns2 < 2 ^ 31 by omega), nI_clamp (show nb2 < 2 ^ 31 by omega)] at mk17
  rw [n9] at ro29
  rw [n10] at ro31
  simp only [i101_0, i101_1, i101_4, i101_7, i101_8, i101_9, i101_12, i101_13, i101_14, i101_17, i101_18, i101_21, i101_24, i101_25, i101_28, i101_29, i101_32, i101_35, i101_36, i101_39, i101_40, i101_43, i101_46, i101_47, i101_48, i101_51, i101_54, i101_55, i101_58, i101_61, i101_e, cof_gk o, cof_gv o, ob_co o, k_in, k_isSheet, k_isUse, k_isAhead, bi_eq0, decide_true, decide_false, and_self, if_true, if_false, reduceCtorEq, not_true_eq_false, not_false_eq_true, mx_t0, Option.toList_some, Option.toList_none, List.nil_append, List.cons_append, true_and, and_true, eq_self, true_or, or_true, bi_01, mx_nl_i, mx_nl_r, mx_nl_n, mx_nl_f, mx_nl_d, kof_gk r.o, kof_gv r.o, ob_co r.o, k_isSeller o r q7, k_isSort o r q12, z8, c9]
  refine k_become (by omega) (by omega) (by omega) hns2 hnb2 mk17 mk.ss (fun h1 mk1 f1 => ?_)
  have o1 : h1[0]? = some (.inr (11, cof ci)) := by rw [f1.2.1 0 (by omega) (by omega)]; exact o
  have r13 := (RO.rs c2).fx f1 (by omega) (by omega)
  have co13 : co_ h1 13 = some 5 := by obtain ⟨_, _, w, _⟩ := r13; exact ob_co w
  simp only [i101_0, i101_1, i101_4, i101_7, i101_8, i101_9, i101_12, i101_13, i101_14, i101_17, i101_18, i101_21, i101_24, i101_25, i101_28, i101_29, i101_32, i101_35, i101_36, i101_39, i101_40, i101_43, i101_46, i101_47, i101_48, i101_51, i101_54, i101_55, i101_58, i101_61, i101_e, cof_gk o1, cof_gv o1, co13, Option.toList_some, Option.toList_none, List.nil_append, List.cons_append, true_and, and_true, eq_self, true_or, or_true, bi_01, mx_nl_i, mx_nl_r, mx_nl_n, mx_nl_f, mx_nl_d]
  refine k_rowB (a := 29) (e := 13) (n := 50) (by omega) h9 (by omega) (by omega) (by omega) (ro29.fx f1 (by omega) (by omega)) r13 (fun h2 ro2 f2 => ?_)
  have o2 : h2[0]? = some (.inr (11, cof ci)) := by rw [f2.2.1 0 (by omega) (by omega)]; exact o1
  have r15 := ((RO.rs c3).fx f1 (by omega) (by omega)).fx f2 (by omega) (by omega)
  have co15 : co_ h2 15 = some 5 := by obtain ⟨_, _, w, _⟩ := r15; exact ob_co w
  simp only [i101_0, i101_1, i101_4, i101_7, i101_8, i101_9, i101_12, i101_13, i101_14, i101_17, i101_18, i101_21, i101_24, i101_25, i101_28, i101_29, i101_32, i101_35, i101_36, i101_39, i101_40, i101_43, i101_46, i101_47, i101_48, i101_51, i101_54, i101_55, i101_58, i101_61, i101_e, cof_gk o2, cof_gv o2, co15, Option.toList_some, Option.toList_none, List.nil_append, List.cons_append, true_and, and_true, eq_self, true_or, or_true, bi_01, mx_nl_i, mx_nl_r, mx_nl_n, mx_nl_f, mx_nl_d]
  refine k_rowB (a := 31) (e := 15) (n := 20) (by omega) h10 (by omega) (by omega) (by omega) ((ro31.fx f1 (by omega) (by omega)).fx f2 (by omega) (by omega)) r15 (fun h3 ro3 f3 => ?_)
  have o3 : h3[0]? = some (.inr (11, cof ci)) := by rw [f3.2.1 0 (by omega) (by omega)]; exact o2
  have os : ∀ w, (h3.set 0 (.inr (11, cof w)))[0]? = some (.inr (11, cof w)) := fun w => mx_gss (by rw [o3]; rfl)
  have f4 : FX 0 1 h3 (h3.set 0 (.inr (11, cof (upd ci 3 (ci 7))))) := FX.set (by omega) (by omega) (by omega)
  have f13 : FX 1 17 h h3 := (f1.wd (by omega)).tr ((f2.wd (by omega)).tr (f3.wd (by omega)))
  have f14 : FX 0 17 h (h3.set 0 (.inr (11, cof (upd ci 3 (ci 7))))) := (f13.wd (by omega)).tr (f4.wd (by omega))
  have mk4 := ((mk1.fx f2 (by omega) (by omega)).fx f3 (by omega) (by omega)).fx f4 (by omega) (by omega)
  have ro4 := (ro2.fx f3 (by omega) (by omega)).fx f4 (by omega) (by omega)
  have ro5 := ro3.fx f4 (by omega) (by omega)
  have mk5 := mk4
  obtain ⟨mi5, mr5, mt5, ms5, r5, q5, mx5⟩ := mk4
  simp only [i101_0, i101_1, i101_4, i101_7, i101_8, i101_9, i101_12, i101_13, i101_14, i101_17, i101_18, i101_21, i101_24, i101_25, i101_28, i101_29, i101_32, i101_35, i101_36, i101_39, i101_40, i101_43, i101_46, i101_47, i101_48, i101_51, i101_54, i101_55, i101_58, i101_61, i101_e, cof_gk o3, cof_gv o3, cof_pk3 o3, cof_pf3 o3, cof_gk (os _), cof_gv (os _), kof_gk r5.o, kof_gv r5.o, q5.1.1, Option.toList_some, Option.toList_none, List.nil_append, List.cons_append, true_and, and_true, eq_self, true_or, or_true, bi_01, mx_nl_i, mx_nl_r, mx_nl_n, mx_nl_f, mx_nl_d]
  refine k _ ⟨?_, ?_, ?_, ?_, c4.fx f14 (by omega), c5.fx f14 (by omega), c6.fx f14 (by omega), cw.2.2.2.2.2.2.2.1.fx f14 (by omega), c8.fx f14 (by omega)⟩ (f14.ft (by omega))
  · show C0 _ (up2 A 0 (A 2) 0 8) (v 3) (A 2 8)
    rw [up2_s]
    exact ⟨_, os _, by rw [pk_us]; exact z7 c9, by rw [pk_un (by decide)]; exact z8, fun _ => by rw [pk_un (by decide)]; exact z7 c9⟩
  · show C1 _ (up2 A 0 (A 2) 0)
    rw [up2_s]
    unfold C1
    rw [a1, a2, nI_clamp (show ns2 < 2 ^ 31 by omega), nI_clamp (show nb2 < 2 ^ 31 by omega)]
    exact mk5
  · show C2 _ (up2 A 0 (A 2) 0)
    rw [up2_s]
    unfold C2
    rw [n9]
    exact ro4
  · show C3 _ (up2 A 0 (A 2) 0)
    rw [up2_s]
    unfold C3
    rw [n10]
    exact ro5
end KN2
