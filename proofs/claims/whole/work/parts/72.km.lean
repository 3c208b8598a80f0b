/-! the component's calls: days, days ahead -/
theorem fw_at {A : Nat → Nat → Int32} {m : Nat → Int32} {n j : Nat} (ok : ∃ ns nb, MD (A 0) ns nb) (h0 : j ≠ 0) (hj : ¬ (20 ≤ j ∧ j < 68)) (hb : j < 70 ∨ 102 ≤ j) : fw_ A m n j = m j := gon_at (MD.ab ok).1 (MD.ab ok).2.1 h0 hj hb n
theorem DI.up {m : Nat → Int32} {i : Nat} {x : Int32} (d : DI m) (hi : i < 20 ∨ (68 ≤ i ∧ i < 70) ∨ 102 ≤ i) : DI (upd m i x) := by
  refine ⟨fun s hs => ?_, fun c hc => ?_⟩
  · rw [pk_un (by omega), pk_un (by omega), pk_un (by omega), pk_un (by omega)]; exact d.1 s hs
  · rw [pk_un (by omega), pk_un (by omega)]; exact d.2 c hc
theorem DI.u6 {m : Nat → Int32} {s : Nat} {x : Int32} (d : DI m) (hs : s < 6) (hx : x = -1 ∨ 0 ≤ x) : DI (upd m (20 + 8 * s + 6) x) := by
  refine ⟨fun t ht => ?_, fun c hc => ?_⟩
  · rw [pk_un (by omega), pk_un (by omega), pk_un (by omega)]
    refine ⟨(d.1 t ht).1, (d.1 t ht).2.1, (d.1 t ht).2.2.1, ?_⟩
    by_cases e : t = s
    · subst e; rw [pk_us]; exact hx
    · rw [pk_un (by omega)]; exact (d.1 t ht).2.2.2
  · rw [pk_un (by omega), pk_un (by omega)]; exact d.2 c hc
theorem DI.ys {m : Nat → Int32} (d : DI m) : DI (ys_ m) := (d.up (by omega)).up (by omega)
theorem DI.yr {G : MXGf} {m : Nat → Int32} {ns nb : Nat} (d : DI m) (hns : ns ≤ 6) (hnb : nb ≤ 8) : ∀ n, DI (yr_ G m ns nb n)
  | 0 => d
  | n + 1 => ((DI.yr d hns hnb n).ys).by hns hnb
theorem yr_at {G : MXGf} {m : Nat → Int32} {ns nb j : Nat} (hns : ns ≤ 6) (hnb : nb ≤ 8) (h0 : j ≠ 0) (h3 : j ≠ 3) (h8 : j ≠ 8) (hj : ¬ (20 ≤ j ∧ j < 68)) (hb : j < 70 ∨ 102 ≤ j) : ∀ n, yr_ G m ns nb n j = m j
  | 0 => rfl
  | n + 1 => by
    show by_ G (ys_ (yr_ G m ns nb n)) ns nb j = _
    rw [by_at hns hnb h0 hj hb, ys_at h8 h3]
    exact yr_at hns hnb h0 h3 h8 hj hb n
section KM2
variable {X : MXX} {d : Nat} {h : MXH} {Q : MXP} {v : Nat → Int32} {A : Nat → Nat → Int32} {ci : Nat → Int32}
theorem q_days (c : CW h v A) (ok : OK v A) {n : Int32} (k : KC h (sp_days v A n) Q) : ev_ X (d + 9) 82 [.ref 0, .int n] h Q := by
  have cw := c
  obtain ⟨⟨ci, o, z3, z8, z7⟩, c1, c2, c3, c4, c5, c6, ⟨ef, g36, e36⟩, c8⟩ := c
  have md := MD.ab ok.1.1
  have di : DI (A 0) := ⟨ok.1.2.2.2.2.2.2.1, ok.1.2.2.2.2.2.2.2.1⟩
  obtain ⟨mi, mr, mt, ms, r, q, mx⟩ := c1
  replace q : MR (A 0) mi mr (nsA A) (nbA A) := q
  replace mx : MX h (A 0) (G_ (A 0)) mt ms (nsA A) := mx
  have mk : MK h 1 (A 0) (G_ (A 0)) (nsA A) (nbA A) := ⟨mi, mr, mt, ms, r, q, mx⟩
  obtain ⟨hns, hnb, e1, e2, e3⟩ := id md
  have q7 : mi 7 = A 0 1 := by rw [e1]; exact q.1.2.2.2.2.1
  have q12 : mi 12 = A 0 2 := by rw [e2]; exact q.1.2.2.2.2.2
  unfold sp_days at k
  by_cases c1 : 1 ≤ n ∧ n ≤ 60
  case neg =>
    rw [if_neg c1] at k
    simp only [i82_0, i82_1, i82_2, i82_4, i82_7, i82_10, i82_11, i82_12, i82_15, i82_16, i82_17, i82_20, i82_23, i82_24, i82_25, i82_28, i82_31, i82_32, i82_33, i82_36, i82_37, i82_38, i82_41, i82_42, i82_45, i82_46, i82_49, i82_52, i82_e, cof_gk o, cof_gv o, ob_co o, k_in, k_isSheet, k_isUse, k_isAhead, bi_eq0, decide_true, decide_false, and_self, if_true, if_false, reduceCtorEq, not_true_eq_false, not_false_eq_true, mx_t0, Option.toList_some, Option.toList_none, List.nil_append, List.cons_append, true_and, and_true, eq_self, true_or, or_true, bi_01, mx_nl_i, mx_nl_r, mx_nl_n, mx_nl_f, mx_nl_d, kof_gk r.o, kof_gv r.o, ob_co r.o, k_isSeller o r q7, k_isSort o r q12, k_e1 o g36, k_e2 o g36, k_e3 o g36, k_e4 o g36, k_e5 o g36, c1]
    exact k.er cw (by decide) (by decide) g36
  rw [if_pos c1] at k
  by_cases c2 : A 0 0 + n ≤ 399
  case neg =>
    rw [if_neg c2] at k
    simp only [i82_0, i82_1, i82_2, i82_4, i82_7, i82_10, i82_11, i82_12, i82_15, i82_16, i82_17, i82_20, i82_23, i82_24, i82_25, i82_28, i82_31, i82_32, i82_33, i82_36, i82_37, i82_38, i82_41, i82_42, i82_45, i82_46, i82_49, i82_52, i82_e, cof_gk o, cof_gv o, ob_co o, k_in, k_isSheet, k_isUse, k_isAhead, bi_eq0, decide_true, decide_false, and_self, if_true, if_false, reduceCtorEq, not_true_eq_false, not_false_eq_true, mx_t0, Option.toList_some, Option.toList_none, List.nil_append, List.cons_append, true_and, and_true, eq_self, true_or, or_true, bi_01, mx_nl_i, mx_nl_r, mx_nl_n, mx_nl_f, mx_nl_d, kof_gk r.o, kof_gv r.o, ob_co r.o, k_isSeller o r q7, k_isSort o r q12, k_e1 o g36, k_e2 o g36, k_e3 o g36, k_e4 o g36, k_e5 o g36, c1, q.1.1, c2]
    exact k.er cw (by decide) (by decide) g36
  rw [if_pos c2] at k
  simp only [i82_0, i82_1, i82_2, i82_4, i82_7, i82_10, i82_11, i82_12, i82_15, i82_16, i82_17, i82_20, i82_23, i82_24, i82_25, i82_28, i82_31, i82_32, i82_33, i82_36, i82_37, i82_38, i82_41, i82_42, i82_45, i82_46, i82_49, i82_52, i82_e, cof_gk o, cof_gv o, ob_co o, k_in, k_isSheet, k_isUse, k_isAhead, bi_eq0, decide_true, decide_false, and_self, if_true, if_false, reduceCtorEq, not_true_eq_false, not_false_eq_true, mx_t0, Option.toList_some, Option.toList_none, List.nil_append, List.cons_append, true_and, and_true, eq_self, true_or, or_true, bi_01, mx_nl_i, mx_nl_r, mx_nl_n, mx_nl_f, mx_nl_d, kof_gk r.o, kof_gv r.o, ob_co r.o, k_isSeller o r q7, k_isSort o r q12, c1, q.1.1, c2]
  obtain ⟨N, hN, rfl⟩ := nI_rng (k := 60) (by decide) ⟨Int32.le_trans (by decide) c1.1, c1.2⟩
  rw [nI_clamp (by omega)] at k
  refine k_goBy (by omega) md di (by omega) mk (fun h' mk' f => ?_)
  have mk2 := mk'
  obtain ⟨mi', mr', mt', ms', r', q', mx'⟩ := mk'
  have o' : h'[0]? = some (.inr (11, cof ci)) := by rw [f.2.1 0 (by omega) (by omega)]; exact o
  have fa : ∀ j, j ≠ 0 → ¬ (20 ≤ j ∧ j < 68) → (j < 70 ∨ 102 ≤ j) → fw_ A (A 0) N j = A 0 j := fun j => fw_at ok.1.1
  simp only [i82_0, i82_1, i82_2, i82_4, i82_7, i82_10, i82_11, i82_12, i82_15, i82_16, i82_17, i82_20, i82_23, i82_24, i82_25, i82_28, i82_31, i82_32, i82_33, i82_36, i82_37, i82_38, i82_41, i82_42, i82_45, i82_46, i82_49, i82_52, i82_e, Option.toList_some, Option.toList_none, List.nil_append, List.cons_append, true_and, and_true, eq_self, true_or, or_true, bi_01, mx_nl_i, mx_nl_r, mx_nl_n, mx_nl_f, mx_nl_d, cof_gk o', cof_gv o', kof_gk r'.o, kof_gv r'.o, q'.1.1]
  refine k.mk cw f (C1.of mk2 ?_ ?_ (fun j hj => fa j (by omega) (by omega) (by omega))) (fa _ (by omega) (by omega) (by omega)) (fa _ (by omega) (by omega) (by omega)) (fa _ (by omega) (by omega) (by omega)) (fun j hj => fa _ (by omega) (by omega) (by omega)) (fun j hj => fa _ (by omega) (by omega) (by omega)) ok
  · exact congrArg Int32.toNatClampNeg (fa 1 (by omega) (by omega) (by omega))
  · exact congrArg Int32.toNatClampNeg (fa 2 (by omega) (by omega) (by omega))
theorem MK.ys {b ns nb : Nat} {m : Nat → Int32} {G : MXGf} {mi : Nat → Int32} {mr : Nat → Nat → Int32} {mt ms : Nat → Option Nat} (hb : b ≤ 84) (hns : ns ≤ 6) (hnb : nb ≤ 8) (r : KM h b mi mr mt ms) (q : MR m mi mr ns nb) (mx : MX h m G mt ms ns) : MK (h.set b (.inr (3, kof b (upd mi 1 (dr_ (m 8 * 1103515245 + 12345)))))) b (ys_ m) G ns nb := by
  have fx : FX b (b + 12) h (h.set b (.inr (3, kof b (upd mi 1 (dr_ (m 8 * 1103515245 + 12345)))))) := FX.set (by omega) (by omega) (by omega)
  have q1 : MR (upd m 8 (m 8 * 1103515245 + 12345)) mi mr ns nb := q.sg hns hnb ⟨fun j h1 h2 h3 h4 => pk_un h2, fun j h1 h2 => pk_un (by omega)⟩
  exact ⟨_, mr, mt, ms, r.sv, q1.w1, (mx.ev fx.2.2).cg (fun t ht j hj => ys_at (by omega) (by omega))⟩
set_option maxHeartbeats 1000000 in
theorem k_year_l {N : Nat} {ci0 : Nat → Int32} {m : Nat → Int32} {G : MXGf} {ns nb : Nat} (md : MD m ns nb) (di : DI m)
    (k' : ∀ h' ci, h'[0]? = some (.inr (11, cof ci)) → ci 3 = yr_ G m ns nb N 8 → ci 8 = ci0 8 → ci 7 = ci0 7 → MK h' 1 (yr_ G m ns nb N) G ns nb → FX 0 13 h h' → Q (some (.int (yr_ G m ns nb N 3))) h') (hN : N ≤ 60) :
    ∀ (n k : Nat) (h1 : MXH) (ci : Nat → Int32), k + n = N → h1[0]? = some (.inr (11, cof ci)) → ci 3 = yr_ G m ns nb k 8 → ci 8 = ci0 8 → ci 7 = ci0 7 → MK h1 1 (yr_ G m ns nb k) G ns nb → FX 0 13 h h1 → ex_ X (d + 9) 83 39 [.ref 0, .int (nI N), .int (nI k)] [] h1 Q := by
  have hns := md.1
  have hnb := md.2.1
  intro n
  induction n with
  | zero =>
    intro k h1 ci hk o z3 z8 z7 mk fx
    have e : k = N := by omega
    subst e
    have mk0 := mk
    obtain ⟨mi, mr, mt, ms, r, q, mx⟩ := mk
    rw [i83_39]
    simp only [i83_0, i83_1, i83_2, i83_4, i83_7, i83_10, i83_11, i83_12, i83_15, i83_16, i83_17, i83_20, i83_23, i83_24, i83_25, i83_28, i83_31, i83_32, i83_33, i83_36, i83_37, i83_38, i83_40, i83_41, i83_44, i83_45, i83_46, i83_49, i83_51, i83_52, i83_55, i83_56, i83_59, i83_60, i83_63, i83_64, i83_67, i83_69, i83_70, i83_71, i83_72, i83_75, i83_76, i83_79, i83_80, i83_83, i83_86, i83_89, i83_90, i83_93, i83_96, i83_e, Int32.le_refl, if_true, cof_gk o, cof_gv o, kof_gk r.o, kof_gv r.o, q.1.2.1, true_and, and_true, eq_self, true_or, or_true, bi_01, mx_nl_i, mx_nl_r, mx_nl_n, mx_nl_f, mx_nl_d]
    exact k' h1 ci o z3 z8 z7 mk0 fx
  | succ n ih =>
    intro k h1 ci hk o z3 z8 z7 mk fx
    have hc : ¬ ((nI N : Int32) ≤ nI k) := by rw [nI_leI (by omega) (by omega)]; omega
    have ih := ih (k + 1)
    rw [show yr_ G m ns nb (k + 1) = by_ G (ys_ (yr_ G m ns nb k)) ns nb from rfl] at ih
    have dk := di.yr (G := G) hns hnb k
    have mdk := md.yr (G := G) k
    generalize yr_ G m ns nb k = m1 at mk ih dk mdk z3
    obtain ⟨mi, mr, mt, ms, r, q, mx⟩ := mk
    have f1 : FX 0 13 h1 (h1.set 0 (.inr (11, cof (upd ci 3 (m1 8 * 1103515245 + 12345))))) := FX.set (by omega) (by omega) (by omega)
    have o1 : (h1.set 0 (.inr (11, cof (upd ci 3 (m1 8 * 1103515245 + 12345)))))[0]? = some (.inr (11, cof (upd ci 3 (m1 8 * 1103515245 + 12345)))) := mx_gss (by rw [o]; rfl)
    have r1 : KM (h1.set 0 (.inr (11, cof (upd ci 3 (m1 8 * 1103515245 + 12345))))) 1 mi mr mt ms := r.cg (fun j h1 h2 => List.getElem?_set_ne (by omega))
    have mx1 := mx.ev f1.2.2
    have mk1 := MK.ys (by omega) hns hnb r1 q mx1
    have f2 : FX 0 13 (h1.set 0 (.inr (11, cof (upd ci 3 (m1 8 * 1103515245 + 12345))))) _ := FX.set (a := 1) (x := .inr (3, kof 1 (upd mi 1 (dr_ (m1 8 * 1103515245 + 12345))))) (by omega) (by omega) (by omega)
    have o2 : ((h1.set 0 (.inr (11, cof (upd ci 3 (m1 8 * 1103515245 + 12345))))).set 1 (.inr (3, kof 1 (upd mi 1 (dr_ (m1 8 * 1103515245 + 12345))))))[0]? = some (.inr (11, cof (upd ci 3 (m1 8 * 1103515245 + 12345)))) := by rw [List.getElem?_set_ne (by omega)]; exact o1
    have ed : (((m1 8 * 1103515245 + 12345).toUInt32 >>> ((8 : Int32).toUInt32 &&& Int32.toUInt32 31)).toInt32 - ((m1 8 * 1103515245 + 12345).toUInt32 >>> ((8 : Int32).toUInt32 &&& Int32.toUInt32 31)).toInt32 / 3 * 3) = dr_ (m1 8 * 1103515245 + 12345) := rfl
    rw [i83_39]
    simp only [i83_0, i83_1, i83_2, i83_4, i83_7, i83_10, i83_11, i83_12, i83_15, i83_16, i83_17, i83_20, i83_23, i83_24, i83_25, i83_28, i83_31, i83_32, i83_33, i83_36, i83_37, i83_38, i83_40, i83_41, i83_44, i83_45, i83_46, i83_49, i83_51, i83_52, i83_55, i83_56, i83_59, i83_60, i83_63, i83_64, i83_67, i83_69, i83_70, i83_71, i83_72, i83_75, i83_76, i83_79, i83_80, i83_83, i83_86, i83_89, i83_90, i83_93, i83_96, i83_e, hc, if_false, cof_gk o, cof_gv o, z3, cof_pk3 o, cof_pf3 o, cof_gk o1, cof_gv o1, pk_us, ne_eq, show ¬ ((3 : Int32) = 0) from by decide, not_false_eq_true, ed, kof_pk1 r1.o, kof_pf1 r1.o, cof_gk o2, cof_gv o2, mk1.co, true_and, and_true, eq_self, true_or, or_true, bi_01, mx_nl_i, mx_nl_r, mx_nl_n, mx_nl_f, mx_nl_d]
    refine k_goBy (N := 1) (by omega) mdk.ys dk.ys (by omega) mk1 (fun h3 mk3 f3 => ?_)
    have o3 : h3[0]? = some (.inr (11, cof (upd ci 3 (m1 8 * 1103515245 + 12345)))) := by rw [f3.2.1 0 (by omega) (by omega)]; exact o2
    simp only [i83_0, i83_1, i83_2, i83_4, i83_7, i83_10, i83_11, i83_12, i83_15, i83_16, i83_17, i83_20, i83_23, i83_24, i83_25, i83_28, i83_31, i83_32, i83_33, i83_36, i83_37, i83_38, i83_40, i83_41, i83_44, i83_45, i83_46, i83_49, i83_51, i83_52, i83_55, i83_56, i83_59, i83_60, i83_63, i83_64, i83_67, i83_69, i83_70, i83_71, i83_72, i83_75, i83_76, i83_79, i83_80, i83_83, i83_86, i83_89, i83_90, i83_93, i83_96, i83_e, nI_1, Option.toList_some, Option.toList_none, List.nil_append, List.cons_append, true_and, and_true, eq_self, true_or, or_true, bi_01, mx_nl_i, mx_nl_r, mx_nl_n, mx_nl_f, mx_nl_d]
    refine ih h3 _ (by omega) o3 ?_ (by rw [pk_un (by decide)]; exact z8) (by rw [pk_un (by decide)]; exact z7) mk3 (fx.tr (f1.tr (f2.tr (f3.wd (by omega)))))
    rw [pk_us, by_at hns hnb (by decide) (by omega) (by omega)]
    unfold ys_
    rw [pk_un (by decide), pk_us]
theorem q_year (c : CW h v A) (ok : OK v A) {n : Int32} (k : KC h (sp_year v A n) Q) : ev_ X (d + 9) 83 [.ref 0, .int n] h Q := by
  have cw := c
  obtain ⟨⟨ci, o, z3, z8, z7⟩, c1, c2, c3, c4, c5, c6, ⟨ef, g36, e36⟩, c8⟩ := c
  have md := MD.ab ok.1.1
  have di : DI (A 0) := ⟨ok.1.2.2.2.2.2.2.1, ok.1.2.2.2.2.2.2.2.1⟩
  obtain ⟨mi, mr, mt, ms, r, q, mx⟩ := c1
  replace q : MR (A 0) mi mr (nsA A) (nbA A) := q
  replace mx : MX h (A 0) (G_ (A 0)) mt ms (nsA A) := mx
  have mk : MK h 1 (A 0) (G_ (A 0)) (nsA A) (nbA A) := ⟨mi, mr, mt, ms, r, q, mx⟩
  obtain ⟨hns, hnb, e1, e2, e3⟩ := id md
  have q7 : mi 7 = A 0 1 := by rw [e1]; exact q.1.2.2.2.2.1
  have q12 : mi 12 = A 0 2 := by rw [e2]; exact q.1.2.2.2.2.2
  unfold sp_year at k
  by_cases c1 : 1 ≤ n ∧ n ≤ 60
  case neg =>
    rw [if_neg c1] at k
    simp only [i83_0, i83_1, i83_2, i83_4, i83_7, i83_10, i83_11, i83_12, i83_15, i83_16, i83_17, i83_20, i83_23, i83_24, i83_25, i83_28, i83_31, i83_32, i83_33, i83_36, i83_37, i83_38, i83_39, i83_40, i83_41, i83_44, i83_45, i83_46, i83_49, i83_51, i83_52, i83_55, i83_56, i83_59, i83_60, i83_63, i83_64, i83_67, i83_69, i83_70, i83_71, i83_72, i83_75, i83_76, i83_79, i83_80, i83_83, i83_86, i83_89, i83_90, i83_93, i83_96, i83_e, cof_gk o, cof_gv o, ob_co o, k_in, k_isSheet, k_isUse, k_isAhead, bi_eq0, decide_true, decide_false, and_self, if_true, if_false, reduceCtorEq, not_true_eq_false, not_false_eq_true, mx_t0, Option.toList_some, Option.toList_none, List.nil_append, List.cons_append, true_and, and_true, eq_self, true_or, or_true, bi_01, mx_nl_i, mx_nl_r, mx_nl_n, mx_nl_f, mx_nl_d, kof_gk r.o, kof_gv r.o, ob_co r.o, k_isSeller o r q7, k_isSort o r q12, k_e1 o g36, k_e2 o g36, k_e3 o g36, k_e4 o g36, k_e5 o g36, c1]
    exact k.er cw (by decide) (by decide) g36
  rw [if_pos c1] at k
  by_cases c2' : A 0 0 + n ≤ 399
  case neg =>
    rw [if_neg c2'] at k
    simp only [i83_0, i83_1, i83_2, i83_4, i83_7, i83_10, i83_11, i83_12, i83_15, i83_16, i83_17, i83_20, i83_23, i83_24, i83_25, i83_28, i83_31, i83_32, i83_33, i83_36, i83_37, i83_38, i83_39, i83_40, i83_41, i83_44, i83_45, i83_46, i83_49, i83_51, i83_52, i83_55, i83_56, i83_59, i83_60, i83_63, i83_64, i83_67, i83_69, i83_70, i83_71, i83_72, i83_75, i83_76, i83_79, i83_80, i83_83, i83_86, i83_89, i83_90, i83_93, i83_96, i83_e, cof_gk o, cof_gv o, ob_co o, k_in, k_isSheet, k_isUse, k_isAhead, bi_eq0, decide_true, decide_false, and_self, if_true, if_false, reduceCtorEq, not_true_eq_false, not_false_eq_true, mx_t0, Option.toList_some, Option.toList_none, List.nil_append, List.cons_append, true_and, and_true, eq_self, true_or, or_true, bi_01, mx_nl_i, mx_nl_r, mx_nl_n, mx_nl_f, mx_nl_d, kof_gk r.o, kof_gv r.o, ob_co r.o, k_isSeller o r q7, k_isSort o r q12, k_e1 o g36, k_e2 o g36, k_e3 o g36, k_e4 o g36, k_e5 o g36, c1, q.1.1, c2']
    exact k.er cw (by decide) (by decide) g36
  rw [if_pos c2'] at k
  simp only [i83_0, i83_1, i83_2, i83_4, i83_7, i83_10, i83_11, i83_12, i83_15, i83_16, i83_17, i83_20, i83_23, i83_24, i83_25, i83_28, i83_31, i83_32, i83_33, i83_36, i83_37, i83_38, i83_40, i83_41, i83_44, i83_45, i83_46, i83_49, i83_51, i83_52, i83_55, i83_56, i83_59, i83_60, i83_63, i83_64, i83_67, i83_69, i83_70, i83_71, i83_72, i83_75, i83_76, i83_79, i83_80, i83_83, i83_86, i83_89, i83_90, i83_93, i83_96, i83_e, cof_gk o, cof_gv o, ob_co o, k_in, k_isSheet, k_isUse, k_isAhead, bi_eq0, decide_true, decide_false, and_self, if_true, if_false, reduceCtorEq, not_true_eq_false, not_false_eq_true, mx_t0, Option.toList_some, Option.toList_none, List.nil_append, List.cons_append, true_and, and_true, eq_self, true_or, or_true, bi_01, mx_nl_i, mx_nl_r, mx_nl_n, mx_nl_f, mx_nl_d, kof_gk r.o, kof_gv r.o, ob_co r.o, k_isSeller o r q7, k_isSort o r q12, c1, q.1.1, c2']
  obtain ⟨N, hN, rfl⟩ := nI_rng (k := 60) (by decide) ⟨Int32.le_trans (by decide) c1.1, c1.2⟩
  rw [nI_clamp (by omega)] at k
  refine k_year_l (h := h) (ci0 := ci) (G := G_ (A 0)) md di ?_ hN N 0 h ci (by omega) o z3 rfl rfl mk (FX.rf h)
  intro h' ci' o' y3 y8 y7 mk' f
  have fa : ∀ j, j ≠ 0 → j ≠ 3 → j ≠ 8 → ¬ (20 ≤ j ∧ j < 68) → (j < 70 ∨ 102 ≤ j) → yr_ (G_ (A 0)) (A 0) (nsA A) (nbA A) N j = A 0 j := fun j h0 h3 h8 h1 h2 => yr_at hns hnb h0 h3 h8 h1 h2 N
  refine k h' ⟨?_, ?_, ?_, ?_, c4.fx f (by omega), c5.fx f (by omega), c6.fx f (by omega), cw.2.2.2.2.2.2.2.1.fx f (by omega), c8.fx f (by omega)⟩ (f.ft (by omega))
  · show C0 h' (up2 A 0 _ 0 8) _ _
    rw [up2_s]
    exact ⟨ci', o', y3, by rw [y8]; exact z8, fun z => by rw [y7]; exact z7 z⟩
  · show C1 h' (up2 A 0 _ 0)
    rw [up2_s]
    exact C1.of mk' (congrArg Int32.toNatClampNeg (fa 1 (by omega) (by omega) (by omega) (by omega) (by omega))) (congrArg Int32.toNatClampNeg (fa 2 (by omega) (by omega) (by omega) (by omega) (by omega))) (fun j hj => fa j (by omega) (by omega) (by omega) (by omega) (by omega))
  · show C2 h' (up2 A 0 _ 0)
    rw [up2_s]
    exact (c2.fx f (by omega)).cg (fa 9 (by omega) (by omega) (by omega) (by omega) (by omega)) (fun j => fa _ (by omega) (by omega) (by omega) (by omega) (by omega))
  · show C3 h' (up2 A 0 _ 0)
    rw [up2_s]
    exact (c3.fx f (by omega)).cg (fa 10 (by omega) (by omega) (by omega) (by omega) (by omega)) (fun j => fa _ (by omega) (by omega) (by omega) (by omega) (by omega))
/-! ahead -/
theorem k_ahead (o : h[0]? = some (.inr (11, cof ci))) (mk : MK h 1 (A 0) (G_ (A 0)) (nsA A) (nbA A)) (s37 : MS h 37) (md : MD (A 0) (nsA A) (nbA A)) (di : DI (A 0)) {N : Nat} (hN : N < 2 ^ 31) (k' : ∀ h', MK h' 37 (fw_ A (A 0) N) (G_ (A 0)) (nsA A) (nbA A) → FX 37 49 h h' → Q (some (.ref 37)) h') : ev_ X (d + 6) 119 [.ref 0, .int (nI N)] h Q := by
  simp only [i119_0, i119_1, i119_4, i119_5, i119_8, i119_11, i119_12, i119_15, i119_16, i119_19, i119_20, i119_23, i119_e, cof_gk o, cof_gv o, s37.co, true_and, and_true, eq_self, true_or, or_true, bi_01, mx_nl_i, mx_nl_r, mx_nl_n, mx_nl_f, mx_nl_d]
  refine k_become (by omega) (by omega) (by omega) md.1 md.2.1 mk s37 (fun h1 mk1 f1 => ?_)
  have o1 : h1[0]? = some (.inr (11, cof ci)) := by rw [f1.2.1 0 (by omega) (by omega)]; exact o
  simp only [i119_0, i119_1, i119_4, i119_5, i119_8, i119_11, i119_12, i119_15, i119_16, i119_19, i119_20, i119_23, i119_e, cof_gk o1, cof_gv o1, mk1.co, Option.toList_some, Option.toList_none, List.nil_append, List.cons_append, true_and, and_true, eq_self, true_or, or_true, bi_01, mx_nl_i, mx_nl_r, mx_nl_n, mx_nl_f, mx_nl_d]
  refine k_goBy (by omega) md di hN mk1 (fun h2 mk2 f2 => ?_)
  have o2 : h2[0]? = some (.inr (11, cof ci)) := by rw [f2.2.1 0 (by omega) (by omega)]; exact o1
  simp only [i119_0, i119_1, i119_4, i119_5, i119_8, i119_11, i119_12, i119_15, i119_16, i119_19, i119_20, i119_23, i119_e, cof_gk o2, cof_gv o2, Option.toList_some, Option.toList_none, List.nil_append, List.cons_append, true_and, and_true, eq_self, true_or, or_true, bi_01, mx_nl_i, mx_nl_r, mx_nl_n, mx_nl_f, mx_nl_d]
  exact k' h2 mk2 (f1.tr f2)
theorem k_pb (o : h[0]? = some (.inr (11, cof ci))) (mk : MK h 1 (A 0) (G_ (A 0)) (nsA A) (nbA A)) (s37 : MS h 37) (md : MD (A 0) (nsA A) (nbA A)) (di : DI (A 0)) {N s : Nat} {p : Int32} (hs : s < nsA A) (hp : p = -1 ∨ 0 ≤ p) (hN : N < 2 ^ 31) (k' : ∀ h', MS h' 37 → FX 37 49 h h' → Q (some (.int (fw_ A (upd (A 0) (20 + 8 * s + 6) p) N (20 + 8 * s + 5)))) h') : ev_ X (d + 6) 120 [.ref 0, .int (nI s), .int p, .int (nI N)] h Q := by
  have hns := md.1
  simp only [i120_0, i120_1, i120_4, i120_5, i120_8, i120_11, i120_12, i120_15, i120_18, i120_19, i120_20, i120_21, i120_22, i120_25, i120_26, i120_29, i120_30, i120_33, i120_36, i120_37, i120_38, i120_e, cof_gk o, cof_gv o, s37.co, true_and, and_true, eq_self, true_or, or_true, bi_01, mx_nl_i, mx_nl_r, mx_nl_n, mx_nl_f, mx_nl_d]
  refine k_become (by omega) (by omega) (by omega) md.1 md.2.1 mk s37 (fun h1 mk1 f1 => ?_)
  have o1 : h1[0]? = some (.inr (11, cof ci)) := by rw [f1.2.1 0 (by omega) (by omega)]; exact o
  obtain ⟨mi, mr, mt, ms, r, q, mx⟩ := mk1
  have u6 := MK.u6 (x := p) (by omega) r q mx hns hs
  have o2 : (h1.set (37 + 6) (.inl (0, 6, .inl (upd (mr 6) s p))))[0]? = some (.inr (11, cof ci)) := by rw [u6.2.2.1 0 (by omega) (by omega)]; exact o1
  simp only [i120_0, i120_1, i120_4, i120_5, i120_8, i120_11, i120_12, i120_15, i120_18, i120_19, i120_20, i120_21, i120_22, i120_25, i120_26, i120_29, i120_30, i120_33, i120_36, i120_37, i120_38, i120_e, cof_gk o1, cof_gv o1, kof_gk r.o, kof_gv r.o, ar_ik r.g6, ar_is r.g6, mx_inN (show s < 6 by omega) (show 6 < 2 ^ 31 by decide), nI_clamp (show s < 2 ^ 31 by omega), cof_gk o2, cof_gv o2, u6.1.co, Option.toList_some, Option.toList_none, List.nil_append, List.cons_append, true_and, and_true, eq_self, true_or, or_true, bi_01, mx_nl_i, mx_nl_r, mx_nl_n, mx_nl_f, mx_nl_d]
  refine k_goBy (by omega) (md.up (by omega)) (di.u6 (by omega) hp) hN u6.1 (fun h2 mk2 f2 => ?_)
  have o3 : h2[0]? = some (.inr (11, cof ci)) := by rw [f2.2.1 0 (by omega) (by omega)]; exact o2
  have s2 := mk2.ss
  obtain ⟨mi2, mr2, mt2, ms2, r2, q2, mx2⟩ := mk2
  have q5 := (q2.2.2.1 s hs).2.1
  simp only [i120_0, i120_1, i120_4, i120_5, i120_8, i120_11, i120_12, i120_15, i120_18, i120_19, i120_20, i120_21, i120_22, i120_25, i120_26, i120_29, i120_30, i120_33, i120_36, i120_37, i120_38, i120_e, cof_gk o3, cof_gv o3, kof_gk r2.o, kof_gv r2.o, ar_ik r2.g5, ar_ia r2.g5, mx_inN (show s < 6 by omega) (show 6 < 2 ^ 31 by decide), nI_clamp (show s < 2 ^ 31 by omega), q5, Option.toList_some, Option.toList_none, List.nil_append, List.cons_append, true_and, and_true, eq_self, true_or, or_true, bi_01, mx_nl_i, mx_nl_r, mx_nl_n, mx_nl_f, mx_nl_d]
  exact k' h2 s2 (f1.tr (u6.2.tr f2))
theorem q_then (c : CW h v A) (ok : OK v A) {n a b : Int32} (k : KC h (sp_then v A n a b) Q) : ev_ X (d + 9) 84 [.ref 0, .int n, .int a, .int b] h Q := by
  have cw := c
  obtain ⟨⟨ci, o, z3, z8, z7⟩, c1, c2, c3, c4, c5, c6, ⟨ef, g36, e36⟩, c8⟩ := c
  have md := MD.ab ok.1.1
  have di : DI (A 0) := ⟨ok.1.2.2.2.2.2.2.1, ok.1.2.2.2.2.2.2.2.1⟩
  obtain ⟨mi, mr, mt, ms, r, q, mx⟩ := c1
  replace q : MR (A 0) mi mr (nsA A) (nbA A) := q
  replace mx : MX h (A 0) (G_ (A 0)) mt ms (nsA A) := mx
  have mk : MK h 1 (A 0) (G_ (A 0)) (nsA A) (nbA A) := ⟨mi, mr, mt, ms, r, q, mx⟩
  obtain ⟨hns, hnb, e1, e2, e3⟩ := id md
  have q7 : mi 7 = A 0 1 := by rw [e1]; exact q.1.2.2.2.2.1
  have q12 : mi 12 = A 0 2 := by rw [e2]; exact q.1.2.2.2.2.2
  unfold sp_then at k
  by_cases hc : (0 ≤ n ∧ n ≤ 60) ∧ (0 ≤ a ∧ a ≤ A 0 1 - 1) ∧ (0 ≤ b ∧ b ≤ 8)
  case neg =>
    rw [if_neg hc] at k
    have hf := k.er cw (by decide) (by decide) g36
    by_cases c0 : (0 ≤ n ∧ n ≤ 60) <;> by_cases c1 : (0 ≤ a ∧ a ≤ A 0 1 - 1) <;> by_cases c2 : (0 ≤ b ∧ b ≤ 8)
    · exact False.elim (hc ⟨c0, c1, c2⟩)
    all_goals simp only [i84_0, i84_1, i84_4, i84_7, i84_8, i84_9, i84_12, i84_15, i84_16, i84_17, i84_19, i84_22, i84_25, i84_26, i84_27, i84_30, i84_31, i84_32, i84_33, i84_36, i84_37, i84_38, i84_41, i84_e, cof_gk o, cof_gv o, ob_co o, k_in, k_isSheet, k_isUse, k_isAhead, bi_eq0, decide_true, decide_false, and_self, if_true, if_false, reduceCtorEq, not_true_eq_false, not_false_eq_true, mx_t0, Option.toList_some, Option.toList_none, List.nil_append, List.cons_append, true_and, and_true, eq_self, true_or, or_true, bi_01, mx_nl_i, mx_nl_r, mx_nl_n, mx_nl_f, mx_nl_d, kof_gk r.o, kof_gv r.o, ob_co r.o, k_isSeller o r q7, k_isSort o r q12, k_e1 o g36, k_e2 o g36, k_e3 o g36, k_e4 o g36, k_e5 o g36, c0, c1, c2]
    all_goals exact hf
  rw [if_pos hc] at k
  obtain ⟨c0, c1, c2⟩ := hc
  simp only [i84_0, i84_1, i84_4, i84_7, i84_8, i84_9, i84_12, i84_15, i84_16, i84_17, i84_19, i84_22, i84_25, i84_26, i84_27, i84_30, i84_31, i84_32, i84_33, i84_36, i84_37, i84_38, i84_41, i84_e, cof_gk o, cof_gv o, ob_co o, k_in, k_isSheet, k_isUse, k_isAhead, bi_eq0, decide_true, decide_false, and_self, if_true, if_false, reduceCtorEq, not_true_eq_false, not_false_eq_true, mx_t0, Option.toList_some, Option.toList_none, List.nil_append, List.cons_append, true_and, and_true, eq_self, true_or, or_true, bi_01, mx_nl_i, mx_nl_r, mx_nl_n, mx_nl_f, mx_nl_d, kof_gk r.o, kof_gv r.o, ob_co r.o, k_isSeller o r q7, k_isSort o r q12, c0, c1, c2]
  rw [e1] at c1
  obtain ⟨s, hs, rfl⟩ := nI_sel (by omega) c1
  obtain ⟨w, hw, rfl⟩ := nI_rng (k := 8) (by decide) c2
  obtain ⟨N, hN, rfl⟩ := nI_rng (k := 60) (by decide) c0
  rw [nI_clamp (show N < 2 ^ 31 by omega), nI_clamp (show s < 2 ^ 31 by omega)] at k
  refine k_ahead (A := A) o mk c8.1 md di (by omega) (fun h1 mk1 f1 => ?_)
  have s1 := mk1.ss
  obtain ⟨mi1, mr1, mt1, ms1, r1, q1, mx1⟩ := mk1
  simp only [i84_0, i84_1, i84_4, i84_7, i84_8, i84_9, i84_12, i84_15, i84_16, i84_17, i84_19, i84_22, i84_25, i84_26, i84_27, i84_30, i84_31, i84_32, i84_33, i84_36, i84_37, i84_38, i84_41, i84_e, ob_co r1.o, Option.toList_some, Option.toList_none, List.nil_append, List.cons_append, true_and, and_true, eq_self, true_or, or_true, bi_01, mx_nl_i, mx_nl_r, mx_nl_n, mx_nl_f, mx_nl_d]
  refine k_ofNow r1 q1 mx1 hns hs hw (fun h2 f2 => ?_)
  simp only [i84_0, i84_1, i84_4, i84_7, i84_8, i84_9, i84_12, i84_15, i84_16, i84_17, i84_19, i84_22, i84_25, i84_26, i84_27, i84_30, i84_31, i84_32, i84_33, i84_36, i84_37, i84_38, i84_41, i84_e, Option.toList_some, Option.toList_none, List.nil_append, List.cons_append, true_and, and_true, eq_self, true_or, or_true, bi_01, mx_nl_i, mx_nl_r, mx_nl_n, mx_nl_f, mx_nl_d]
  exact k.sc cw (f1.tr (f2.wd (by omega))) (s1.fx f2 (by omega) (by omega))
theorem q_waits (c : CW h v A) (ok : OK v A) {n a : Int32} (k : KC h (sp_waits v A n a) Q) : ev_ X (d + 9) 85 [.ref 0, .int n, .int a] h Q := by
  have cw := c
  obtain ⟨⟨ci, o, z3, z8, z7⟩, c1, c2, c3, c4, c5, c6, ⟨ef, g36, e36⟩, c8⟩ := c
  have md := MD.ab ok.1.1
  have di : DI (A 0) := ⟨ok.1.2.2.2.2.2.2.1, ok.1.2.2.2.2.2.2.2.1⟩
  obtain ⟨mi, mr, mt, ms, r, q, mx⟩ := c1
  replace q : MR (A 0) mi mr (nsA A) (nbA A) := q
  replace mx : MX h (A 0) (G_ (A 0)) mt ms (nsA A) := mx
  have mk : MK h 1 (A 0) (G_ (A 0)) (nsA A) (nbA A) := ⟨mi, mr, mt, ms, r, q, mx⟩
  obtain ⟨hns, hnb, e1, e2, e3⟩ := id md
  have q7 : mi 7 = A 0 1 := by rw [e1]; exact q.1.2.2.2.2.1
  have q12 : mi 12 = A 0 2 := by rw [e2]; exact q.1.2.2.2.2.2
  unfold sp_waits at k
  by_cases hc : (0 ≤ n ∧ n ≤ 60) ∧ (0 ≤ a ∧ a ≤ A 0 2 - 1)
  case neg =>
    rw [if_neg hc] at k
    have hf := k.er cw (by decide) (by decide) g36
    by_cases c0 : (0 ≤ n ∧ n ≤ 60) <;> by_cases c1 : (0 ≤ a ∧ a ≤ A 0 2 - 1)
    · exact False.elim (hc ⟨c0, c1⟩)
    all_goals simp only [i85_0, i85_1, i85_4, i85_7, i85_8, i85_9, i85_12, i85_15, i85_16, i85_17, i85_20, i85_21, i85_22, i85_23, i85_26, i85_29, i85_30, i85_31, i85_e, cof_gk o, cof_gv o, ob_co o, k_in, k_isSheet, k_isUse, k_isAhead, bi_eq0, decide_true, decide_false, and_self, if_true, if_false, reduceCtorEq, not_true_eq_false, not_false_eq_true, mx_t0, Option.toList_some, Option.toList_none, List.nil_append, List.cons_append, true_and, and_true, eq_self, true_or, or_true, bi_01, mx_nl_i, mx_nl_r, mx_nl_n, mx_nl_f, mx_nl_d, kof_gk r.o, kof_gv r.o, ob_co r.o, k_isSeller o r q7, k_isSort o r q12, k_e1 o g36, k_e2 o g36, k_e3 o g36, k_e4 o g36, k_e5 o g36, c0, c1]
    all_goals exact hf
  rw [if_pos hc] at k
  obtain ⟨c0, c1⟩ := hc
  simp only [i85_0, i85_1, i85_4, i85_7, i85_8, i85_9, i85_12, i85_15, i85_16, i85_17, i85_20, i85_21, i85_22, i85_23, i85_26, i85_29, i85_30, i85_31, i85_e, cof_gk o, cof_gv o, ob_co o, k_in, k_isSheet, k_isUse, k_isAhead, bi_eq0, decide_true, decide_false, and_self, if_true, if_false, reduceCtorEq, not_true_eq_false, not_false_eq_true, mx_t0, Option.toList_some, Option.toList_none, List.nil_append, List.cons_append, true_and, and_true, eq_self, true_or, or_true, bi_01, mx_nl_i, mx_nl_r, mx_nl_n, mx_nl_f, mx_nl_d, kof_gk r.o, kof_gv r.o, ob_co r.o, k_isSeller o r q7, k_isSort o r q12, c0, c1]
  rw [e2] at c1
  obtain ⟨s, hs, rfl⟩ := nI_sel (by omega) c1
  obtain ⟨N, hN, rfl⟩ := nI_rng (k := 60) (by decide) c0
  rw [nI_clamp (show N < 2 ^ 31 by omega), nI_clamp (show s < 2 ^ 31 by omega)] at k
  refine k_ahead (A := A) o mk c8.1 md di (by omega) (fun h1 mk1 f1 => ?_)
  have s1 := mk1.ss
  obtain ⟨mi1, mr1, mt1, ms1, r1, q1, mx1⟩ := mk1
  simp only [i85_0, i85_1, i85_4, i85_7, i85_8, i85_9, i85_12, i85_15, i85_16, i85_17, i85_20, i85_21, i85_22, i85_23, i85_26, i85_29, i85_30, i85_31, i85_e, kof_gk r1.o, kof_gv r1.o, ar_ik r1.g11, ar_ia r1.g11, mx_inN (show s < 8 by omega) (show 8 < 2 ^ 31 by decide), nI_clamp (show s < 2 ^ 31 by omega), (q1.2.2.2 s hs).2.2.2, Option.toList_some, Option.toList_none, List.nil_append, List.cons_append, true_and, and_true, eq_self, true_or, or_true, bi_01, mx_nl_i, mx_nl_r, mx_nl_n, mx_nl_f, mx_nl_d]
  exact k.sc cw f1 s1
theorem q_earned (c : CW h v A) (ok : OK v A) {n : Int32} (k : KC h (sp_earned v A n) Q) : ev_ X (d + 9) 86 [.ref 0, .int n] h Q := by
  have cw := c
  obtain ⟨⟨ci, o, z3, z8, z7⟩, c1, c2, c3, c4, c5, c6, ⟨ef, g36, e36⟩, c8⟩ := c
  have md := MD.ab ok.1.1
  have di : DI (A 0) := ⟨ok.1.2.2.2.2.2.2.1, ok.1.2.2.2.2.2.2.2.1⟩
  obtain ⟨mi, mr, mt, ms, r, q, mx⟩ := c1
  replace q : MR (A 0) mi mr (nsA A) (nbA A) := q
  replace mx : MX h (A 0) (G_ (A 0)) mt ms (nsA A) := mx
  have mk : MK h 1 (A 0) (G_ (A 0)) (nsA A) (nbA A) := ⟨mi, mr, mt, ms, r, q, mx⟩
  obtain ⟨hns, hnb, e1, e2, e3⟩ := id md
  have q7 : mi 7 = A 0 1 := by rw [e1]; exact q.1.2.2.2.2.1
  have q12 : mi 12 = A 0 2 := by rw [e2]; exact q.1.2.2.2.2.2
  unfold sp_earned at k
  by_cases c0 : (0 ≤ n ∧ n ≤ 60)
  case neg =>
    rw [if_neg c0] at k
    simp only [i86_0, i86_1, i86_4, i86_7, i86_8, i86_9, i86_12, i86_13, i86_14, i86_15, i86_18, i86_21, i86_e, cof_gk o, cof_gv o, ob_co o, k_in, k_isSheet, k_isUse, k_isAhead, bi_eq0, decide_true, decide_false, and_self, if_true, if_false, reduceCtorEq, not_true_eq_false, not_false_eq_true, mx_t0, Option.toList_some, Option.toList_none, List.nil_append, List.cons_append, true_and, and_true, eq_self, true_or, or_true, bi_01, mx_nl_i, mx_nl_r, mx_nl_n, mx_nl_f, mx_nl_d, kof_gk r.o, kof_gv r.o, ob_co r.o, k_isSeller o r q7, k_isSort o r q12, k_e1 o g36, k_e2 o g36, k_e3 o g36, k_e4 o g36, k_e5 o g36, c0]
    exact k.er cw (by decide) (by decide) g36
  rw [if_pos c0] at k
  simp only [i86_0, i86_1, i86_4, i86_7, i86_8, i86_9, i86_12, i86_13, i86_14, i86_15, i86_18, i86_21, i86_e, cof_gk o, cof_gv o, ob_co o, k_in, k_isSheet, k_isUse, k_isAhead, bi_eq0, decide_true, decide_false, and_self, if_true, if_false, reduceCtorEq, not_true_eq_false, not_false_eq_true, mx_t0, Option.toList_some, Option.toList_none, List.nil_append, List.cons_append, true_and, and_true, eq_self, true_or, or_true, bi_01, mx_nl_i, mx_nl_r, mx_nl_n, mx_nl_f, mx_nl_d, kof_gk r.o, kof_gv r.o, ob_co r.o, k_isSeller o r q7, k_isSort o r q12, c0]
  obtain ⟨N, hN, rfl⟩ := nI_rng (k := 60) (by decide) c0
  rw [nI_clamp (show N < 2 ^ 31 by omega)] at k
  refine k_ahead (A := A) o mk c8.1 md di (by omega) (fun h1 mk1 f1 => ?_)
  have s1 := mk1.ss
  obtain ⟨mi1, mr1, mt1, ms1, r1, q1, mx1⟩ := mk1
  simp only [i86_0, i86_1, i86_4, i86_7, i86_8, i86_9, i86_12, i86_13, i86_14, i86_15, i86_18, i86_21, i86_e, ob_co r1.o, k_sumP r1 q1 hns, Option.toList_some, Option.toList_none, List.nil_append, List.cons_append, true_and, and_true, eq_self, true_or, or_true, bi_01, mx_nl_i, mx_nl_r, mx_nl_n, mx_nl_f, mx_nl_d]
  exact k.sc cw f1 s1
theorem q_lost (c : CW h v A) (ok : OK v A) {n : Int32} (k : KC h (sp_lost v A n) Q) : ev_ X (d + 9) 87 [.ref 0, .int n] h Q := by
  have cw := c
  obtain ⟨⟨ci, o, z3, z8, z7⟩, c1, c2, c3, c4, c5, c6, ⟨ef, g36, e36⟩, c8⟩ := c
  have md := MD.ab ok.1.1
  have di : DI (A 0) := ⟨ok.1.2.2.2.2.2.2.1, ok.1.2.2.2.2.2.2.2.1⟩
  obtain ⟨mi, mr, mt, ms, r, q, mx⟩ := c1
  replace q : MR (A 0) mi mr (nsA A) (nbA A) := q
  replace mx : MX h (A 0) (G_ (A 0)) mt ms (nsA A) := mx
  have mk : MK h 1 (A 0) (G_ (A 0)) (nsA A) (nbA A) := ⟨mi, mr, mt, ms, r, q, mx⟩
  obtain ⟨hns, hnb, e1, e2, e3⟩ := id md
  have q7 : mi 7 = A 0 1 := by rw [e1]; exact q.1.2.2.2.2.1
  have q12 : mi 12 = A 0 2 := by rw [e2]; exact q.1.2.2.2.2.2
  unfold sp_lost at k
  by_cases c0 : (0 ≤ n ∧ n ≤ 60)
  case neg =>
    rw [if_neg c0] at k
    simp only [i87_0, i87_1, i87_4, i87_7, i87_8, i87_9, i87_12, i87_13, i87_14, i87_15, i87_18, i87_21, i87_e, cof_gk o, cof_gv o, ob_co o, k_in, k_isSheet, k_isUse, k_isAhead, bi_eq0, decide_true, decide_false, and_self, if_true, if_false, reduceCtorEq, not_true_eq_false, not_false_eq_true, mx_t0, Option.toList_some, Option.toList_none, List.nil_append, List.cons_append, true_and, and_true, eq_self, true_or, or_true, bi_01, mx_nl_i, mx_nl_r, mx_nl_n, mx_nl_f, mx_nl_d, kof_gk r.o, kof_gv r.o, ob_co r.o, k_isSeller o r q7, k_isSort o r q12, k_e1 o g36, k_e2 o g36, k_e3 o g36, k_e4 o g36, k_e5 o g36, c0]
    exact k.er cw (by decide) (by decide) g36
  rw [if_pos c0] at k
  simp only [i87_0, i87_1, i87_4, i87_7, i87_8, i87_9, i87_12, i87_13, i87_14, i87_15, i87_18, i87_21, i87_e, cof_gk o, cof_gv o, ob_co o, k_in, k_isSheet, k_isUse, k_isAhead, bi_eq0, decide_true, decide_false, and_self, if_true, if_false, reduceCtorEq, not_true_eq_false, not_false_eq_true, mx_t0, Option.toList_some, Option.toList_none, List.nil_append, List.cons_append, true_and, and_true, eq_self, true_or, or_true, bi_01, mx_nl_i, mx_nl_r, mx_nl_n, mx_nl_f, mx_nl_d, kof_gk r.o, kof_gv r.o, ob_co r.o, k_isSeller o r q7, k_isSort o r q12, c0]
  obtain ⟨N, hN, rfl⟩ := nI_rng (k := 60) (by decide) c0
  rw [nI_clamp (show N < 2 ^ 31 by omega)] at k
  refine k_ahead (A := A) o mk c8.1 md di (by omega) (fun h1 mk1 f1 => ?_)
  simp only [i87_0, i87_1, i87_4, i87_7, i87_8, i87_9, i87_12, i87_13, i87_14, i87_15, i87_18, i87_21, i87_e, mk1.co, Option.toList_some, Option.toList_none, List.nil_append, List.cons_append, true_and, and_true, eq_self, true_or, or_true, bi_01, mx_nl_i, mx_nl_r, mx_nl_n, mx_nl_f, mx_nl_d]
  refine k_lost (by omega) (md.gon N) mk1 (fun h2 s2 f2 => ?_)
  simp only [i87_0, i87_1, i87_4, i87_7, i87_8, i87_9, i87_12, i87_13, i87_14, i87_15, i87_18, i87_21, i87_e, Option.toList_some, Option.toList_none, List.nil_append, List.cons_append, true_and, and_true, eq_self, true_or, or_true, bi_01, mx_nl_i, mx_nl_r, mx_nl_n, mx_nl_f, mx_nl_d]
  exact k.sc cw (f1.tr f2) s2
theorem q_right (c : CW h v A) (ok : OK v A) {a n : Int32} (k : KC h (sp_right v A a n) Q) : ev_ X (d + 9) 89 [.ref 0, .int a, .int n] h Q := by
  have cw := c
  obtain ⟨⟨ci, o, z3, z8, z7⟩, c1, c2, c3, c4, c5, c6, ⟨ef, g36, e36⟩, c8⟩ := c
  have md := MD.ab ok.1.1
  have di : DI (A 0) := ⟨ok.1.2.2.2.2.2.2.1, ok.1.2.2.2.2.2.2.2.1⟩
  obtain ⟨mi, mr, mt, ms, r, q, mx⟩ := c1
  replace q : MR (A 0) mi mr (nsA A) (nbA A) := q
  replace mx : MX h (A 0) (G_ (A 0)) mt ms (nsA A) := mx
  have mk : MK h 1 (A 0) (G_ (A 0)) (nsA A) (nbA A) := ⟨mi, mr, mt, ms, r, q, mx⟩
  obtain ⟨hns, hnb, e1, e2, e3⟩ := id md
  have q7 : mi 7 = A 0 1 := by rw [e1]; exact q.1.2.2.2.2.1
  have q12 : mi 12 = A 0 2 := by rw [e2]; exact q.1.2.2.2.2.2
  unfold sp_right at k
  by_cases hc : (0 ≤ a ∧ a ≤ A 0 1 - 1) ∧ (0 ≤ n ∧ n ≤ 60)
  case neg =>
    rw [if_neg hc] at k
    have hf := k.er cw (by decide) (by decide) g36
    by_cases c0 : (0 ≤ n ∧ n ≤ 60) <;> by_cases c1 : (0 ≤ a ∧ a ≤ A 0 1 - 1)
    · exact False.elim (hc ⟨c1, c0⟩)
    all_goals simp only [i89_0, i89_1, i89_2, i89_5, i89_8, i89_9, i89_12, i89_15, i89_16, i89_17, i89_20, i89_21, i89_22, i89_23, i89_24, i89_25, i89_28, i89_29, i89_30, i89_31, i89_32, i89_35, i89_38, i89_39, i89_40, i89_41, i89_e, cof_gk o, cof_gv o, ob_co o, k_in, k_isSheet, k_isUse, k_isAhead, bi_eq0, decide_true, decide_false, and_self, if_true, if_false, reduceCtorEq, not_true_eq_false, not_false_eq_true, mx_t0, Option.toList_some, Option.toList_none, List.nil_append, List.cons_append, true_and, and_true, eq_self, true_or, or_true, bi_01, mx_nl_i, mx_nl_r, mx_nl_n, mx_nl_f, mx_nl_d, kof_gk r.o, kof_gv r.o, ob_co r.o, k_isSeller o r q7, k_isSort o r q12, k_e1 o g36, k_e2 o g36, k_e3 o g36, k_e4 o g36, k_e5 o g36, c0, c1]
    all_goals exact hf
  rw [if_pos hc] at k
  obtain ⟨c1, c0⟩ := hc
  simp only [i89_0, i89_1, i89_2, i89_5, i89_8, i89_9, i89_12, i89_15, i89_16, i89_17, i89_20, i89_21, i89_22, i89_23, i89_24, i89_25, i89_28, i89_29, i89_30, i89_31, i89_32, i89_35, i89_38, i89_39, i89_40, i89_41, i89_e, cof_gk o, cof_gv o, ob_co o, k_in, k_isSheet, k_isUse, k_isAhead, bi_eq0, decide_true, decide_false, and_self, if_true, if_false, reduceCtorEq, not_true_eq_false, not_false_eq_true, mx_t0, Option.toList_some, Option.toList_none, List.nil_append, List.cons_append, true_and, and_true, eq_self, true_or, or_true, bi_01, mx_nl_i, mx_nl_r, mx_nl_n, mx_nl_f, mx_nl_d, kof_gk r.o, kof_gv r.o, ob_co r.o, k_isSeller o r q7, k_isSort o r q12, c0, c1]
  rw [e1] at c1
  obtain ⟨s, hs, rfl⟩ := nI_sel (by omega) c1
  obtain ⟨N, hN, rfl⟩ := nI_rng (k := 60) (by decide) c0
  rw [nI_clamp (show N < 2 ^ 31 by omega), nI_clamp (show s < 2 ^ 31 by omega)] at k
  refine k_pb (A := A) o mk c8.1 md di hs (Or.inl rfl) (by omega) (fun h1 s1 f1 => ?_)
  have o1 : h1[0]? = some (.inr (11, cof ci)) := by rw [f1.2.1 0 (by omega) (by omega)]; exact o
  simp only [i89_0, i89_1, i89_2, i89_5, i89_8, i89_9, i89_12, i89_15, i89_16, i89_17, i89_20, i89_21, i89_22, i89_23, i89_24, i89_25, i89_28, i89_29, i89_30, i89_31, i89_32, i89_35, i89_38, i89_39, i89_40, i89_41, i89_e, ob_co o1, Option.toList_some, Option.toList_none, List.nil_append, List.cons_append, true_and, and_true, eq_self, true_or, or_true, bi_01, mx_nl_i, mx_nl_r, mx_nl_n, mx_nl_f, mx_nl_d]
  refine k_ahead (A := A) o1 (mk.fx f1 (by omega) (by omega)) s1 md di (by omega) (fun h2 mk2 f2 => ?_)
  have s2 := mk2.ss
  obtain ⟨mi2, mr2, mt2, ms2, r2, q2, mx2⟩ := mk2
  simp only [i89_0, i89_1, i89_2, i89_5, i89_8, i89_9, i89_12, i89_15, i89_16, i89_17, i89_20, i89_21, i89_22, i89_23, i89_24, i89_25, i89_28, i89_29, i89_30, i89_31, i89_32, i89_35, i89_38, i89_39, i89_40, i89_41, i89_e, kof_gk r2.o, kof_gv r2.o, ar_ik r2.g5, ar_ia r2.g5, mx_inN (show s < 6 by omega) (show 6 < 2 ^ 31 by decide), nI_clamp (show s < 2 ^ 31 by omega), (q2.2.2.1 s hs).2.1, Option.toList_some, Option.toList_none, List.nil_append, List.cons_append, true_and, and_true, eq_self, true_or, or_true, bi_01, mx_nl_i, mx_nl_r, mx_nl_n, mx_nl_f, mx_nl_d]
  exact k.sc cw (f1.tr f2) s2
theorem q_tenth (c : CW h v A) (ok : OK v A) {n u : Int32} (k : KC h (sp_tenth v A n u) Q) : ev_ X (d + 9) 90 [.ref 0, .int n, .int u] h Q := by
  have cw := c
  obtain ⟨⟨ci, o, z3, z8, z7⟩, c1, c2, c3, c4, c5, c6, ⟨ef, g36, e36⟩, c8⟩ := c
  have md := MD.ab ok.1.1
  have di : DI (A 0) := ⟨ok.1.2.2.2.2.2.2.1, ok.1.2.2.2.2.2.2.2.1⟩
  obtain ⟨mi, mr, mt, ms, r, q, mx⟩ := c1
  replace q : MR (A 0) mi mr (nsA A) (nbA A) := q
  replace mx : MX h (A 0) (G_ (A 0)) mt ms (nsA A) := mx
  have mk : MK h 1 (A 0) (G_ (A 0)) (nsA A) (nbA A) := ⟨mi, mr, mt, ms, r, q, mx⟩
  obtain ⟨hns, hnb, e1, e2, e3⟩ := id md
  have q7 : mi 7 = A 0 1 := by rw [e1]; exact q.1.2.2.2.2.1
  have q12 : mi 12 = A 0 2 := by rw [e2]; exact q.1.2.2.2.2.2
  unfold sp_tenth at k
  by_cases hc : (0 ≤ n ∧ n ≤ 60) ∧ (0 ≤ u ∧ u ≤ 999)
  case neg =>
    rw [if_neg hc] at k
    have hf := k.er cw (by decide) (by decide) g36
    by_cases c0 : (0 ≤ n ∧ n ≤ 60) <;> by_cases c1 : (0 ≤ u ∧ u ≤ 999)
    · exact False.elim (hc ⟨c0, c1⟩)
    all_goals simp only [i90_0, i90_1, i90_4, i90_7, i90_8, i90_9, i90_12, i90_15, i90_18, i90_19, i90_20, i90_23, i90_24, i90_25, i90_28, i90_29, i90_32, i90_35, i90_36, i90_39, i90_40, i90_43, i90_44, i90_47, i90_48, i90_51, i90_52, i90_55, i90_58, i90_59, i90_60, i90_61, i90_62, i90_65, i90_68, i90_69, i90_e, cof_gk o, cof_gv o, ob_co o, k_in, k_isSheet, k_isUse, k_isAhead, bi_eq0, decide_true, decide_false, and_self, if_true, if_false, reduceCtorEq, not_true_eq_false, not_false_eq_true, mx_t0, Option.toList_some, Option.toList_none, List.nil_append, List.cons_append, true_and, and_true, eq_self, true_or, or_true, bi_01, mx_nl_i, mx_nl_r, mx_nl_n, mx_nl_f, mx_nl_d, kof_gk r.o, kof_gv r.o, ob_co r.o, k_isSeller o r q7, k_isSort o r q12, k_e1 o g36, k_e2 o g36, k_e3 o g36, k_e4 o g36, k_e5 o g36, c0, c1]
    all_goals exact hf
  rw [if_pos hc] at k
  obtain ⟨c0, c1⟩ := hc
  simp only [i90_0, i90_1, i90_4, i90_7, i90_8, i90_9, i90_12, i90_15, i90_18, i90_19, i90_20, i90_23, i90_24, i90_25, i90_28, i90_29, i90_32, i90_35, i90_36, i90_39, i90_40, i90_43, i90_44, i90_47, i90_48, i90_51, i90_52, i90_55, i90_58, i90_59, i90_60, i90_61, i90_62, i90_65, i90_68, i90_69, i90_e, cof_gk o, cof_gv o, ob_co o, k_in, k_isSheet, k_isUse, k_isAhead, bi_eq0, decide_true, decide_false, and_self, if_true, if_false, reduceCtorEq, not_true_eq_false, not_false_eq_true, mx_t0, Option.toList_some, Option.toList_none, List.nil_append, List.cons_append, true_and, and_true, eq_self, true_or, or_true, bi_01, mx_nl_i, mx_nl_r, mx_nl_n, mx_nl_f, mx_nl_d, kof_gk r.o, kof_gv r.o, ob_co r.o, k_isSeller o r q7, k_isSort o r q12, c0, c1, c8.1.co]
  obtain ⟨N, hN, rfl⟩ := nI_rng (k := 60) (by decide) c0
  rw [nI_clamp (show N < 2 ^ 31 by omega)] at k
  refine k_become (by omega) (by omega) (by omega) hns hnb mk c8.1 (fun h1 mk1 f1 => ?_)
  have o1 : h1[0]? = some (.inr (11, cof ci)) := by rw [f1.2.1 0 (by omega) (by omega)]; exact o
  obtain ⟨mi1, mr1, mt1, ms1, r1, q1, mx1⟩ := mk1
  have f2 : FX 37 49 h1 (h1.set 37 (.inr (3, kof 37 (upd mi1 2 u)))) := FX.set (by omega) (by omega) (by omega)
  have o2 : (h1.set 37 (.inr (3, kof 37 (upd mi1 2 u))))[0]? = some (.inr (11, cof ci)) := by rw [List.getElem?_set_ne (by omega)]; exact o1
  have mk2 : MK (h1.set 37 (.inr (3, kof 37 (upd mi1 2 u)))) 37 (upd (A 0) 7 u) (G_ (A 0)) (nsA A) (nbA A) := ⟨_, mr1, mt1, ms1, r1.sv, q1.w2, (mx1.ev f2.2.2).cg (fun t ht j hj => by rw [pk_un (by omega)])⟩
  simp only [i90_0, i90_1, i90_4, i90_7, i90_8, i90_9, i90_12, i90_15, i90_18, i90_19, i90_20, i90_23, i90_24, i90_25, i90_28, i90_29, i90_32, i90_35, i90_36, i90_39, i90_40, i90_43, i90_44, i90_47, i90_48, i90_51, i90_52, i90_55, i90_58, i90_59, i90_60, i90_61, i90_62, i90_65, i90_68, i90_69, i90_e, cof_gk o1, cof_gv o1, kof_pk2 r1.o, kof_pf2 r1.o, cof_gk o2, cof_gv o2, mk2.co, Option.toList_some, Option.toList_none, List.nil_append, List.cons_append, true_and, and_true, eq_self, true_or, or_true, bi_01, mx_nl_i, mx_nl_r, mx_nl_n, mx_nl_f, mx_nl_d]
  refine k_goBy (by omega) (md.up (by omega)) (di.up (by omega)) (by omega) mk2 (fun h3 mk3 f3 => ?_)
  have o3 : h3[0]? = some (.inr (11, cof ci)) := by rw [f3.2.1 0 (by omega) (by omega)]; exact o2
  have f13 : FX 37 49 h h3 := f1.tr (f2.tr f3)
  have s3 := mk3.ss
  obtain ⟨mi3, mr3, mt3, ms3, r3, q3, mx3⟩ := mk3
  simp only [i90_0, i90_1, i90_4, i90_7, i90_8, i90_9, i90_12, i90_15, i90_18, i90_19, i90_20, i90_23, i90_24, i90_25, i90_28, i90_29, i90_32, i90_35, i90_36, i90_39, i90_40, i90_43, i90_44, i90_47, i90_48, i90_51, i90_52, i90_55, i90_58, i90_59, i90_60, i90_61, i90_62, i90_65, i90_68, i90_69, i90_e, cof_gk o3, cof_gv o3, ob_co r3.o, k_sumP r3 q3 hns, ob_co o3, Option.toList_some, Option.toList_none, List.nil_append, List.cons_append, true_and, and_true, eq_self, true_or, or_true, bi_01, mx_nl_i, mx_nl_r, mx_nl_n, mx_nl_f, mx_nl_d]
  refine k_ahead (A := A) o3 (mk.fx f13 (by omega) (by omega)) s3 md di (by omega) (fun h4 mk4 f4 => ?_)
  have s4 := mk4.ss
  obtain ⟨mi4, mr4, mt4, ms4, r4, q4, mx4⟩ := mk4
  simp only [i90_0, i90_1, i90_4, i90_7, i90_8, i90_9, i90_12, i90_15, i90_18, i90_19, i90_20, i90_23, i90_24, i90_25, i90_28, i90_29, i90_32, i90_35, i90_36, i90_39, i90_40, i90_43, i90_44, i90_47, i90_48, i90_51, i90_52, i90_55, i90_58, i90_59, i90_60, i90_61, i90_62, i90_65, i90_68, i90_69, i90_e, ob_co r4.o, k_sumP r4 q4 hns, Option.toList_some, Option.toList_none, List.nil_append, List.cons_append, true_and, and_true, eq_self, true_or, or_true, bi_01, mx_nl_i, mx_nl_r, mx_nl_n, mx_nl_f, mx_nl_d]
  exact k.sc cw (f13.tr f4) s4
theorem CW.co (c : CW h v A) : co_ h 0 = some 11 := by
  obtain ⟨⟨ci, o, _⟩, _⟩ := c
  exact ob_co o
theorem k_pb2 (c : CW h v A) (ok : OK v A) {N s : Nat} {p : Int32} (hs : s < nsA A) (hp : p = -1 ∨ 0 ≤ p) (hN : N < 2 ^ 31) (k' : ∀ h', CW h' v A → FX 37 49 h h' → Q (some (.int (fw_ A (upd (A 0) (20 + 8 * s + 6) p) N (20 + 8 * s + 5)))) h') : ev_ X (d + 6) 120 [.ref 0, .int (nI s), .int p, .int (nI N)] h Q := by
  have cw := c
  obtain ⟨⟨ci, o, z3, z8, z7⟩, c1, c2, c3, c4, c5, c6, ⟨ef, g36, e36⟩, c8⟩ := c
  have md := MD.ab ok.1.1
  have di : DI (A 0) := ⟨ok.1.2.2.2.2.2.2.1, ok.1.2.2.2.2.2.2.2.1⟩
  obtain ⟨mi, mr, mt, ms, r, q, mx⟩ := c1
  replace q : MR (A 0) mi mr (nsA A) (nbA A) := q
  replace mx : MX h (A 0) (G_ (A 0)) mt ms (nsA A) := mx
  have mk : MK h 1 (A 0) (G_ (A 0)) (nsA A) (nbA A) := ⟨mi, mr, mt, ms, r, q, mx⟩
  obtain ⟨hns, hnb, e1, e2, e3⟩ := id md
  have q7 : mi 7 = A 0 1 := by rw [e1]; exact q.1.2.2.2.2.1
  have q12 : mi 12 = A 0 2 := by rw [e2]; exact q.1.2.2.2.2.2
  exact k_pb (A := A) o mk c8.1 md di hs hp hN (fun h2 s2 f2 => k' h2 (cw.sc f2 s2) f2)
set_option maxHeartbeats 1000000 in
theorem k_begin_l (c : CW h v A) (ok : OK v A) {s N : Nat} (hs : s < nsA A) (hN : N ≤ 9) (k : KC h (nI (10 * (bst (bgv A s N) 100).1), v, A) Q) : ∀ (n j : Nat) (h1 : MXH) (w6 : Value), j + n = 100 → CW h1 v A → FX 37 49 h h1 → ex_ X (d + 9) 88 33 [.ref 0, .int (nI s), .int (nI N), .int (nI (10 * (bst (bgv A s N) j).1)), .int (bst (bgv A s N) j).2, .int (nI (10 * j)), w6] [] h1 Q := by
  intro n
  induction n with
  | zero =>
    intro j h1 w6 hj c1 f1
    have e : j = 100 := by omega
    subst e
    rw [i88_33]
    simp only [i88_0, i88_1, i88_2, i88_5, i88_8, i88_9, i88_10, i88_12, i88_15, i88_18, i88_19, i88_20, i88_23, i88_24, i88_25, i88_26, i88_28, i88_30, i88_31, i88_35, i88_38, i88_41, i88_42, i88_43, i88_45, i88_46, i88_49, i88_51, i88_53, i88_55, i88_58, i88_60, i88_62, i88_64, i88_65, i88_68, i88_71, i88_72, i88_e, show (999 : Int32) < nI (10 * 100) from by decide, if_true, true_and, and_true, eq_self, true_or, or_true, bi_01, mx_nl_i, mx_nl_r, mx_nl_n, mx_nl_f, mx_nl_d]
    exact k h1 c1 (f1.ft (by omega))
  | succ n ih =>
    intro j h1 w6 hj cc f1
    have hc : ¬ ((999 : Int32) < nI (10 * j)) := by
      show ¬ (nI 999 < nI (10 * j))
      rw [nI_ltI (by decide) (by omega)]; omega
    have ih := ih (j + 1)
    have x10 : (nI (10 * j) + 10 : Int32) = nI (10 * (j + 1)) := by
      rw [show (10 : Int32) = nI 10 from rfl, nI_add]; rfl
    rw [i88_33]
    simp only [i88_0, i88_1, i88_2, i88_5, i88_8, i88_9, i88_10, i88_12, i88_15, i88_18, i88_19, i88_20, i88_23, i88_24, i88_25, i88_26, i88_28, i88_30, i88_31, i88_35, i88_38, i88_41, i88_42, i88_43, i88_45, i88_46, i88_49, i88_51, i88_53, i88_55, i88_58, i88_60, i88_62, i88_64, i88_65, i88_68, i88_71, i88_72, i88_e, hc, if_false, cc.co, true_and, and_true, eq_self, true_or, or_true, bi_01, mx_nl_i, mx_nl_r, mx_nl_n, mx_nl_f, mx_nl_d]
    refine k_pb2 cc ok hs (Or.inr (nI_pos' (by omega))) (by omega) (fun h2 cw2 f2 => ?_)
    have ih2 := fun w => ih h2 w (by omega) cw2 (f1.tr f2)
    rw [show bst (bgv A s N) (j + 1) = if bgv A s N j ≤ (bst (bgv A s N) j).2 then bst (bgv A s N) j else (j, bgv A s N j) from rfl] at ih2
    rw [show fw_ A (upd (A 0) (20 + 8 * s + 6) (nI (10 * j))) N (20 + 8 * s + 5) = bgv A s N j from rfl]
    by_cases c9 : bgv A s N j ≤ (bst (bgv A s N) j).2
    · rw [if_pos c9] at ih2
      simp only [i88_0, i88_1, i88_2, i88_5, i88_8, i88_9, i88_10, i88_12, i88_15, i88_18, i88_19, i88_20, i88_23, i88_24, i88_25, i88_26, i88_28, i88_30, i88_31, i88_35, i88_38, i88_41, i88_42, i88_43, i88_45, i88_46, i88_49, i88_51, i88_53, i88_55, i88_58, i88_60, i88_62, i88_64, i88_65, i88_68, i88_71, i88_72, i88_e, c9, if_true, x10, Option.toList_some, Option.toList_none, List.nil_append, List.cons_append, true_and, and_true, eq_self, true_or, or_true, bi_01, mx_nl_i, mx_nl_r, mx_nl_n, mx_nl_f, mx_nl_d]
      exact ih2 _
    · rw [if_neg c9] at ih2
      simp only [i88_0, i88_1, i88_2, i88_5, i88_8, i88_9, i88_10, i88_12, i88_15, i88_18, i88_19, i88_20, i88_23, i88_24, i88_25, i88_26, i88_28, i88_30, i88_31, i88_35, i88_38, i88_41, i88_42, i88_43, i88_45, i88_46, i88_49, i88_51, i88_53, i88_55, i88_58, i88_60, i88_62, i88_64, i88_65, i88_68, i88_71, i88_72, i88_e, c9, if_false, x10, Option.toList_some, Option.toList_none, List.nil_append, List.cons_append, true_and, and_true, eq_self, true_or, or_true, bi_01, mx_nl_i, mx_nl_r, mx_nl_n, mx_nl_f, mx_nl_d]
      exact ih2 _
theorem q_begin (c : CW h v A) (ok : OK v A) {a n : Int32} (k : KC h (sp_begin v A a n) Q) : ev_ X (d + 9) 88 [.ref 0, .int a, .int n] h Q := by
  have cw := c
  obtain ⟨⟨ci, o, z3, z8, z7⟩, c1, c2, c3, c4, c5, c6, ⟨ef, g36, e36⟩, c8⟩ := c
  have md := MD.ab ok.1.1
  have di : DI (A 0) := ⟨ok.1.2.2.2.2.2.2.1, ok.1.2.2.2.2.2.2.2.1⟩
  obtain ⟨mi, mr, mt, ms, r, q, mx⟩ := c1
  replace q : MR (A 0) mi mr (nsA A) (nbA A) := q
  replace mx : MX h (A 0) (G_ (A 0)) mt ms (nsA A) := mx
  have mk : MK h 1 (A 0) (G_ (A 0)) (nsA A) (nbA A) := ⟨mi, mr, mt, ms, r, q, mx⟩
  obtain ⟨hns, hnb, e1, e2, e3⟩ := id md
  have q7 : mi 7 = A 0 1 := by rw [e1]; exact q.1.2.2.2.2.1
  have q12 : mi 12 = A 0 2 := by rw [e2]; exact q.1.2.2.2.2.2
  unfold sp_begin at k
  by_cases hc : (0 ≤ a ∧ a ≤ A 0 1 - 1) ∧ (1 ≤ n ∧ n ≤ 9)
  case neg =>
    rw [if_neg hc] at k
    have hf := k.er cw (by decide) (by decide) g36
    by_cases c0 : (1 ≤ n ∧ n ≤ 9) <;> by_cases c1 : (0 ≤ a ∧ a ≤ A 0 1 - 1)
    · exact False.elim (hc ⟨c1, c0⟩)
    all_goals simp only [i88_0, i88_1, i88_2, i88_5, i88_8, i88_9, i88_10, i88_12, i88_15, i88_18, i88_19, i88_20, i88_23, i88_24, i88_25, i88_26, i88_28, i88_30, i88_31, i88_33, i88_35, i88_38, i88_41, i88_42, i88_43, i88_45, i88_46, i88_49, i88_51, i88_53, i88_55, i88_58, i88_60, i88_62, i88_64, i88_65, i88_68, i88_71, i88_72, i88_e, cof_gk o, cof_gv o, ob_co o, k_in, k_isSheet, k_isUse, k_isAhead, bi_eq0, decide_true, decide_false, and_self, if_true, if_false, reduceCtorEq, not_true_eq_false, not_false_eq_true, mx_t0, Option.toList_some, Option.toList_none, List.nil_append, List.cons_append, true_and, and_true, eq_self, true_or, or_true, bi_01, mx_nl_i, mx_nl_r, mx_nl_n, mx_nl_f, mx_nl_d, kof_gk r.o, kof_gv r.o, ob_co r.o, k_isSeller o r q7, k_isSort o r q12, k_e1 o g36, k_e2 o g36, k_e3 o g36, k_e4 o g36, k_e5 o g36, c0, c1]
    all_goals exact hf
  rw [if_pos hc] at k
  obtain ⟨c1, c0⟩ := hc
  simp only [i88_0, i88_1, i88_2, i88_5, i88_8, i88_9, i88_10, i88_12, i88_15, i88_18, i88_19, i88_20, i88_23, i88_24, i88_25, i88_26, i88_28, i88_30, i88_31, i88_35, i88_38, i88_41, i88_42, i88_43, i88_45, i88_46, i88_49, i88_51, i88_53, i88_55, i88_58, i88_60, i88_62, i88_64, i88_65, i88_68, i88_71, i88_72, i88_e, cof_gk o, cof_gv o, ob_co o, k_in, k_isSheet, k_isUse, k_isAhead, bi_eq0, decide_true, decide_false, and_self, if_true, if_false, reduceCtorEq, not_true_eq_false, not_false_eq_true, mx_t0, Option.toList_some, Option.toList_none, List.nil_append, List.cons_append, true_and, and_true, eq_self, true_or, or_true, bi_01, mx_nl_i, mx_nl_r, mx_nl_n, mx_nl_f, mx_nl_d, kof_gk r.o, kof_gv r.o, ob_co r.o, k_isSeller o r q7, k_isSort o r q12, c0, c1]
  rw [e1] at c1
  obtain ⟨s, hs, rfl⟩ := nI_sel (by omega) c1
  obtain ⟨N, hN, rfl⟩ := nI_rng (k := 9) (by decide) ⟨Int32.le_trans (by decide) c0.1, c0.2⟩
  rw [nI_clamp (show N < 2 ^ 31 by omega), nI_clamp (show s < 2 ^ 31 by omega)] at k
  exact k_begin_l cw ok hs hN k 100 0 h _ (by omega) cw (FX.rf h)
end KM2
