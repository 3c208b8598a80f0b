/-! the component's calls -/
theorem C1.of {h : MXH} {m m' : Nat → Int32} {ns nb : Nat} (mk : MK h 1 m' (G_ m) ns nb) (hn : (m' 1).toNatClampNeg = ns) (hb : (m' 2).toNatClampNeg = nb) (te : TE m m') : C1 h m' := by
  unfold C1
  rw [G_TE te, hn, hb]
  exact mk
section MRV
variable {h : MXH} {m mi : Nat → Int32} {mr : Nat → Nat → Int32} {ns nb k : Nat} {x : Int32}
theorem MR.w1 (q : MR m mi mr ns nb) : MR (upd m 3 x) (upd mi 1 x) mr ns nb := by
  obtain ⟨⟨a1, a2, a3, a4, a5, a6⟩, b, c, e⟩ := q
  refine ⟨⟨by rw [pk_un (by decide), pk_un (by decide)]; exact a1, by rw [pk_us, pk_us], by rw [pk_un (by decide), pk_un (by decide)]; exact a3, by rw [pk_un (by decide), pk_un (by decide)]; exact a4, by rw [pk_un (by decide)]; exact a5, by rw [pk_un (by decide)]; exact a6⟩, fun j hj => by rw [pk_un (by omega)]; exact b j hj, fun s hs => ?_, fun s hs => ?_⟩
  · rw [pk_un (by omega), pk_un (by omega), pk_un (by omega)]; exact c s hs
  · rw [pk_un (by omega), pk_un (by omega), pk_un (by omega), pk_un (by omega)]; exact e s hs
theorem MR.w2 (q : MR m mi mr ns nb) : MR (upd m 7 x) (upd mi 2 x) mr ns nb := by
  obtain ⟨⟨a1, a2, a3, a4, a5, a6⟩, b, c, e⟩ := q
  refine ⟨⟨by rw [pk_un (by decide), pk_un (by decide)]; exact a1, by rw [pk_un (by decide), pk_un (by decide)]; exact a2, by rw [pk_us, pk_us], by rw [pk_un (by decide), pk_un (by decide)]; exact a4, by rw [pk_un (by decide)]; exact a5, by rw [pk_un (by decide)]; exact a6⟩, fun j hj => by rw [pk_un (by omega)]; exact b j hj, fun s hs => ?_, fun s hs => ?_⟩
  · rw [pk_un (by omega), pk_un (by omega), pk_un (by omega)]; exact c s hs
  · rw [pk_un (by omega), pk_un (by omega), pk_un (by omega), pk_un (by omega)]; exact e s hs
theorem MR.wh (q : MR m mi mr ns nb) (hk : k < 3) : MR (upd m (4 + k) x) mi (up2 mr 1 (upd (mr 1) k x)) ns nb := by
  obtain ⟨⟨a1, a2, a3, a4, a5, a6⟩, b, c, e⟩ := q
  refine ⟨⟨by rw [pk_un (by omega)]; exact a1, by rw [pk_un (by omega)]; exact a2, by rw [pk_un (by omega)]; exact a3, by rw [pk_un (by omega)]; exact a4, a5, a6⟩, fun j hj => ?_, fun s hs => ?_, fun s hs => ?_⟩
  · rw [up2_s]
    by_cases c1 : j = k
    · subst c1; rw [pk_us, pk_us]
    · rw [pk_un c1, pk_un (by omega)]; exact b j hj
  · rw [up2_n (by decide), up2_n (by decide), up2_n (by decide), pk_un (by omega), pk_un (by omega), pk_un (by omega)]; exact c s hs
  · rw [up2_n (by decide), up2_n (by decide), up2_n (by decide), up2_n (by decide), pk_un (by omega), pk_un (by omega), pk_un (by omega), pk_un (by omega)]; exact e s hs
end MRV
section KK
variable {X : MXX} {d : Nat} {h : MXH} {Q : MXP} {v : Nat → Int32} {A : Nat → Nat → Int32}
theorem KC.up {x y : Int32} {i : Nat} {h' : MXH} (k : KC h (x, v, up2 A 0 (upd (A 0) i y)) Q) (c : CW h v A) (ok : OK v A) (f : FX 1 13 h h') (mk : MK h' 1 (upd (A 0) i y) (G_ (A 0)) (nsA A) (nbA A)) (h1 : 3 ≤ i) (h2 : i < 104) (h3 : i ≠ 8) (h4 : i ≠ 9) (h5 : i ≠ 10) : Q (some (.int x)) h' := by
  refine k.mk c f (C1.of mk (by rw [pk_un (by omega)]; rfl) (by rw [pk_un (by omega)]; rfl) (TE.up h2)) ?_ ?_ ?_ (fun j hj => ?_) (fun j hj => ?_) ok
  · rw [pk_un (by omega)]
  · rw [pk_un (by omega)]
  · rw [pk_un (by omega)]
  · rw [pk_un (by omega)]
  · rw [pk_un (by omega)]
theorem q_ofSeller (c : CW h v A) (ok : OK v A) {a b : Int32} (k : KC h (sp_ofSeller v A a b) Q) : ev_ X (d + 9) 71 [.ref 0, .int a, .int b] h Q := by
  have cw := c
  obtain ⟨⟨ci, o, z3, z8, z7⟩, c1, c2, c3, c4, c5, c6, ⟨ef, g36, e36⟩, c8⟩ := c
  have md := MD.ab ok.1.1
  have di : DI (A 0) := ⟨ok.1.2.2.2.2.2.2.1, ok.1.2.2.2.2.2.2.2.1⟩
  obtain ⟨mi, mr, mt, ms, r, q, mx⟩ := c1
  replace q : MR (A 0) mi mr (nsA A) (nbA A) := q
  replace mx : MX h (A 0) (G_ (A 0)) mt ms (nsA A) := mx
  have mk : MK h 1 (A 0) (G_ (A 0)) (nsA A) (nbA A) := ⟨mi, mr, mt, ms, r, q, mx⟩
  obtain ⟨hns, hnb, e1, e2, e3⟩ := id md
  have q7 : mi 7 = A 0 1 := by rw [e1]; exact q.1.2.2.2.2.1
  have q12 : mi 12 = A 0 2 := by rw [e2]; exact q.1.2.2.2.2.2
  unfold sp_ofSeller at k
  by_cases hc : (0 ≤ a ∧ a ≤ A 0 1 - 1) ∧ (0 ≤ b ∧ b ≤ 8)
  case neg =>
    rw [if_neg hc] at k
    have hf := k.er cw (by decide) (by decide) g36
    by_cases c1 : (0 ≤ a ∧ a ≤ A 0 1 - 1) <;> by_cases c2 : (0 ≤ b ∧ b ≤ 8)
    · exact False.elim (hc ⟨c1, c2⟩)
    all_goals simp only [i71_0, i71_1, i71_2, i71_5, i71_8, i71_9, i71_10, i71_12, i71_15, i71_18, i71_19, i71_20, i71_23, i71_24, i71_25, i71_28, i71_29, i71_30, i71_33, i71_e, cof_gk o, cof_gv o, ob_co o, k_in, k_isSheet, k_isUse, k_isAhead, bi_eq0, decide_true, decide_false, and_self, if_true, if_false, reduceCtorEq, not_true_eq_false, not_false_eq_true, mx_t0, Option.toList_some, Option.toList_none, List.nil_append, List.cons_append, true_and, and_true, eq_self, true_or, or_true, bi_01, mx_nl_i, mx_nl_r, mx_nl_n, mx_nl_f, mx_nl_d, kof_gk r.o, kof_gv r.o, ob_co r.o, k_isSeller o r q7, k_isSort o r q12, k_e1 o g36, k_e2 o g36, k_e3 o g36, k_e4 o g36, k_e5 o g36, c1, c2]
    all_goals exact hf
  rw [if_pos hc] at k
  obtain ⟨c1, c2⟩ := hc
  simp only [i71_0, i71_1, i71_2, i71_5, i71_8, i71_9, i71_10, i71_12, i71_15, i71_18, i71_19, i71_20, i71_23, i71_24, i71_25, i71_28, i71_29, i71_30, i71_33, i71_e, cof_gk o, cof_gv o, ob_co o, k_in, k_isSheet, k_isUse, k_isAhead, bi_eq0, decide_true, decide_false, and_self, if_true, if_false, reduceCtorEq, not_true_eq_false, not_false_eq_true, mx_t0, Option.toList_some, Option.toList_none, List.nil_append, List.cons_append, true_and, and_true, eq_self, true_or, or_true, bi_01, mx_nl_i, mx_nl_r, mx_nl_n, mx_nl_f, mx_nl_d, kof_gk r.o, kof_gv r.o, ob_co r.o, k_isSeller o r q7, k_isSort o r q12, c1, c2]
  rw [e1] at c1
  obtain ⟨s, hs, rfl⟩ := nI_sel (by omega) c1
  obtain ⟨w, hw, rfl⟩ := nI_rng (k := 8) (by decide) c2
  rw [nI_clamp (show s < 2 ^ 31 by omega)] at k
  refine k_ofNow r q mx hns hs hw (fun h' f => ?_)
  simp only [i71_0, i71_1, i71_2, i71_5, i71_8, i71_9, i71_10, i71_12, i71_15, i71_18, i71_19, i71_20, i71_23, i71_24, i71_25, i71_28, i71_29, i71_30, i71_33, i71_e, Option.toList_some, Option.toList_none, List.nil_append, List.cons_append]
  exact k.fx0 cw f
theorem k_fitsSeller {b c : Int32} : ev_ X (d + 1) 115 [.int b, .int c] h Q = Q (some (.int (bi_ (decide ((b = 0 ∧ (0 ≤ c ∧ c ≤ 99)) ∨ (b = 1 ∧ ((-99999999) ≤ c ∧ c ≤ 99999999)) ∨ (b = 2 ∧ ((-1) ≤ c ∧ c ≤ 999))))))) h := by
  by_cases b0 : b = 0
  · subst b0
    simp only [i115_0, i115_28, i115_29, i115_30, i115_32, i115_35, i115_36, i115_37, i115_40, i115_43, i115_46, i115_47, i115_48, i115_49, i115_52, i115_55, i115_56, i115_57, i115_e, i115_1s, if_true, k_in, Option.toList_some, Option.toList_none, List.nil_append, List.cons_append, true_and, and_true, eq_self, true_or, or_true, bi_01, mx_nl_i, mx_nl_r, mx_nl_n, mx_nl_f, mx_nl_d, show ¬ ((0 : Int32) = 1) from by decide, show ¬ ((0 : Int32) = 2) from by decide, false_and, or_false]
  · by_cases b1 : b = 1
    · subst b1
      simp only [i115_0, i115_28, i115_29, i115_30, i115_32, i115_35, i115_36, i115_37, i115_40, i115_43, i115_46, i115_47, i115_48, i115_49, i115_52, i115_55, i115_56, i115_57, i115_e, i115_1s, if_true, if_false, k_in, Option.toList_some, Option.toList_none, List.nil_append, List.cons_append, true_and, and_true, eq_self, true_or, or_true, bi_01, mx_nl_i, mx_nl_r, mx_nl_n, mx_nl_f, mx_nl_d, show ¬ ((1 : Int32) = 0) from by decide, show ¬ ((1 : Int32) = 2) from by decide, false_and, or_false, false_or]
    · by_cases b2 : b = 2
      · subst b2
        simp only [i115_0, i115_28, i115_29, i115_30, i115_32, i115_35, i115_36, i115_37, i115_40, i115_43, i115_46, i115_47, i115_48, i115_49, i115_52, i115_55, i115_56, i115_57, i115_e, i115_1s, if_true, if_false, k_in, Option.toList_some, Option.toList_none, List.nil_append, List.cons_append, true_and, and_true, eq_self, true_or, or_true, bi_01, mx_nl_i, mx_nl_r, mx_nl_n, mx_nl_f, mx_nl_d, show ¬ ((2 : Int32) = 0) from by decide, show ¬ ((2 : Int32) = 1) from by decide, false_and, false_or]
      · simp only [i115_0, i115_28, i115_29, i115_30, i115_32, i115_35, i115_36, i115_37, i115_40, i115_43, i115_46, i115_47, i115_48, i115_49, i115_52, i115_55, i115_56, i115_e, i115_1s, i115_57 mx_01a, b0, b1, b2, if_false, false_and, or_self, decide_false]
        rfl
set_option maxHeartbeats 1000000 in
theorem q_set (c : CW h v A) (ok : OK v A) {a b x : Int32} (k : KC h (sp_set v A a b x) Q) : ev_ X (d + 9) 72 [.ref 0, .int a, .int b, .int x] h Q := by
  have cw := c
  obtain ⟨⟨ci, o, z3, z8, z7⟩, c1, c2, c3, c4, c5, c6, ⟨ef, g36, e36⟩, c8⟩ := c
  have md := MD.ab ok.1.1
  have di : DI (A 0) := ⟨ok.1.2.2.2.2.2.2.1, ok.1.2.2.2.2.2.2.2.1⟩
  obtain ⟨mi, mr, mt, ms, r, q, mx⟩ := c1
  replace q : MR (A 0) mi mr (nsA A) (nbA A) := q
  replace mx : MX h (A 0) (G_ (A 0)) mt ms (nsA A) := mx
  have mk : MK h 1 (A 0) (G_ (A 0)) (nsA A) (nbA A) := ⟨mi, mr, mt, ms, r, q, mx⟩
  obtain ⟨hns, hnb, e1, e2, e3⟩ := id md
  have q7 : mi 7 = A 0 1 := by rw [e1]; exact q.1.2.2.2.2.1
  have q12 : mi 12 = A 0 2 := by rw [e2]; exact q.1.2.2.2.2.2
  unfold sp_set at k
  by_cases c1 : (0 ≤ a ∧ a ≤ A 0 1 - 1)
  case neg =>
    rw [if_neg (fun z => c1 z.1)] at k
    simp only [i72_0, i72_1, i72_2, i72_5, i72_8, i72_9, i72_10, i72_13, i72_16, i72_17, i72_18, i72_21, i72_22, i72_23, i72_26, i72_27, i72_30, i72_33, i72_36, i72_37, i72_38, i72_41, i72_42, i72_45, i72_48, i72_51, i72_52, i72_55, i72_58, i72_60, i72_62, i72_63, i72_64, i72_66, i72_68, i72_69, i72_70, i72_71, i72_73, i72_e, cof_gk o, cof_gv o, ob_co o, k_in, k_isSheet, k_isUse, k_isAhead, bi_eq0, decide_true, decide_false, and_self, if_true, if_false, reduceCtorEq, not_true_eq_false, not_false_eq_true, mx_t0, Option.toList_some, Option.toList_none, List.nil_append, List.cons_append, true_and, and_true, eq_self, true_or, or_true, bi_01, mx_nl_i, mx_nl_r, mx_nl_n, mx_nl_f, mx_nl_d, kof_gk r.o, kof_gv r.o, ob_co r.o, k_isSeller o r q7, k_isSort o r q12, k_e1 o g36, k_e2 o g36, k_e3 o g36, k_e4 o g36, k_e5 o g36, c1]
    exact k.er cw (by decide) (by decide) g36
  by_cases c2 : ((b = 0 ∧ (0 ≤ x ∧ x ≤ 99)) ∨ (b = 1 ∧ ((-99999999) ≤ x ∧ x ≤ 99999999)) ∨ (b = 2 ∧ ((-1) ≤ x ∧ x ≤ 999)))
  case neg =>
    rw [if_neg (fun z => c2 z.2)] at k
    simp only [i72_0, i72_1, i72_2, i72_5, i72_8, i72_9, i72_10, i72_13, i72_16, i72_17, i72_18, i72_21, i72_22, i72_23, i72_26, i72_27, i72_30, i72_33, i72_36, i72_37, i72_38, i72_41, i72_42, i72_45, i72_48, i72_51, i72_52, i72_55, i72_58, i72_60, i72_62, i72_63, i72_64, i72_66, i72_68, i72_69, i72_70, i72_71, i72_73, i72_e, cof_gk o, cof_gv o, ob_co o, k_in, k_isSheet, k_isUse, k_isAhead, bi_eq0, decide_true, decide_false, and_self, if_true, if_false, reduceCtorEq, not_true_eq_false, not_false_eq_true, mx_t0, Option.toList_some, Option.toList_none, List.nil_append, List.cons_append, true_and, and_true, eq_self, true_or, or_true, bi_01, mx_nl_i, mx_nl_r, mx_nl_n, mx_nl_f, mx_nl_d, kof_gk r.o, kof_gv r.o, ob_co r.o, k_isSeller o r q7, k_isSort o r q12, k_e1 o g36, k_e2 o g36, k_e3 o g36, k_e4 o g36, k_e5 o g36, k_fitsSeller, c1, c2]
    exact k.er cw (by decide) (by decide) g36
  rw [if_pos ⟨c1, c2⟩] at k
  have hf : ∀ Q', ev_ X (d + 8) 115 [.int b, .int x] h Q' = Q' (some (.int (bi_ true))) h := fun Q' => by rw [k_fitsSeller, decide_eq_true c2]
  have c1' := c1
  rw [e1] at c1'
  obtain ⟨s, hs, rfl⟩ := nI_sel (by omega) c1'
  rw [nI_clamp (show s < 2 ^ 31 by omega)] at k
  obtain ⟨q4, q5, q6⟩ := q.2.2.1 s hs
  have i6 : mx_in (nI s) 6 = true := mx_inN (by omega) (by decide)
  by_cases b0 : b = 0
  · subst b0
    simp only [show (0 : Int32).toNatClampNeg = 0 from by decide, Nat.add_zero] at k
    have fx : FX 1 13 h (h.set (1 + 4) (.inl (0, 6, .inl (upd (mr 4) s x)))) := FX.set (by omega) (by omega) (by omega)
    simp only [i72_0, i72_1, i72_2, i72_5, i72_8, i72_9, i72_10, i72_13, i72_16, i72_17, i72_18, i72_21, i72_22, i72_23, i72_26, i72_27, i72_30, i72_33, i72_36, i72_37, i72_38, i72_41, i72_42, i72_45, i72_48, i72_51, i72_52, i72_55, i72_58, i72_60, i72_62, i72_63, i72_64, i72_66, i72_68, i72_69, i72_70, i72_71, i72_73, i72_e, cof_gk o, cof_gv o, ob_co o, k_in, k_isSheet, k_isUse, k_isAhead, bi_eq0, decide_true, decide_false, and_self, if_true, if_false, reduceCtorEq, not_true_eq_false, not_false_eq_true, mx_t0, Option.toList_some, Option.toList_none, List.nil_append, List.cons_append, true_and, and_true, eq_self, true_or, or_true, bi_01, mx_nl_i, mx_nl_r, mx_nl_n, mx_nl_f, mx_nl_d, kof_gk r.o, kof_gv r.o, ob_co r.o, k_isSeller o r q7, k_isSort o r q12, hf, c1, ar_ik r.g4, ar_ia r.g4, ar_is r.g4, i6, nI_clamp (show s < 2 ^ 31 by omega), q4]
    exact k.up cw ok fx ⟨mi, _, mt, ms, r.s4, q.u4 hns hs, (mx.ev fx.2.2).cg (fun t ht j hj => by rw [pk_un (by omega)])⟩ (by omega) (by omega) (by omega) (by omega) (by omega)
  · by_cases b1 : b = 1
    · subst b1
      rw [show (1 : Int32).toNatClampNeg = 1 from by decide, show 20 + 8 * s + 4 + 1 = 20 + 8 * s + 5 by omega] at k
      have fx : FX 1 13 h (h.set (1 + 5) (.inl (0, 6, .inl (upd (mr 5) s x)))) := FX.set (by omega) (by omega) (by omega)
      simp only [i72_0, i72_1, i72_2, i72_5, i72_8, i72_9, i72_10, i72_13, i72_16, i72_17, i72_18, i72_21, i72_22, i72_23, i72_26, i72_27, i72_30, i72_33, i72_36, i72_37, i72_38, i72_41, i72_42, i72_45, i72_48, i72_51, i72_52, i72_55, i72_58, i72_60, i72_62, i72_63, i72_64, i72_66, i72_68, i72_69, i72_70, i72_71, i72_73, i72_e, cof_gk o, cof_gv o, ob_co o, k_in, k_isSheet, k_isUse, k_isAhead, bi_eq0, decide_true, decide_false, and_self, if_true, if_false, reduceCtorEq, not_true_eq_false, not_false_eq_true, mx_t0, Option.toList_some, Option.toList_none, List.nil_append, List.cons_append, true_and, and_true, eq_self, true_or, or_true, bi_01, mx_nl_i, mx_nl_r, mx_nl_n, mx_nl_f, mx_nl_d, kof_gk r.o, kof_gv r.o, ob_co r.o, k_isSeller o r q7, k_isSort o r q12, hf, c1, b0, ar_ik r.g5, ar_ia r.g5, ar_is r.g5, i6, nI_clamp (show s < 2 ^ 31 by omega), q5]
      exact k.up cw ok fx ⟨mi, _, mt, ms, r.s5, q.u5 hns hs, (mx.ev fx.2.2).cg (fun t ht j hj => by rw [pk_un (by omega)])⟩ (by omega) (by omega) (by omega) (by omega) (by omega)
    · have b2 : b = 2 := by
        rcases c2 with z | z | z
        · exact absurd z.1 b0
        · exact absurd z.1 b1
        · exact z.1
      subst b2
      rw [show (2 : Int32).toNatClampNeg = 2 from by decide, show 20 + 8 * s + 4 + 2 = 20 + 8 * s + 6 by omega] at k
      have fx : FX 1 13 h (h.set (1 + 6) (.inl (0, 6, .inl (upd (mr 6) s x)))) := FX.set (by omega) (by omega) (by omega)
      simp only [i72_0, i72_1, i72_2, i72_5, i72_8, i72_9, i72_10, i72_13, i72_16, i72_17, i72_18, i72_21, i72_22, i72_23, i72_26, i72_27, i72_30, i72_33, i72_36, i72_37, i72_38, i72_41, i72_42, i72_45, i72_48, i72_51, i72_52, i72_55, i72_58, i72_60, i72_62, i72_63, i72_64, i72_66, i72_68, i72_69, i72_70, i72_71, i72_73, i72_e, cof_gk o, cof_gv o, ob_co o, k_in, k_isSheet, k_isUse, k_isAhead, bi_eq0, decide_true, decide_false, and_self, if_true, if_false, reduceCtorEq, not_true_eq_false, not_false_eq_true, mx_t0, Option.toList_some, Option.toList_none, List.nil_append, List.cons_append, true_and, and_true, eq_self, true_or, or_true, bi_01, mx_nl_i, mx_nl_r, mx_nl_n, mx_nl_f, mx_nl_d, kof_gk r.o, kof_gv r.o, ob_co r.o, k_isSeller o r q7, k_isSort o r q12, hf, c1, b0, b1, ar_ik r.g6, ar_ia r.g6, ar_is r.g6, i6, nI_clamp (show s < 2 ^ 31 by omega), q6]
      exact k.up cw ok fx ⟨mi, _, mt, ms, r.s6, q.u6 hns hs, (mx.ev fx.2.2).cg (fun t ht j hj => by rw [pk_un (by omega)])⟩ (by omega) (by omega) (by omega) (by omega) (by omega)
theorem q_may (c : CW h v A) (ok : OK v A) {a b : Int32} (k : KC h (sp_may v A a b) Q) : ev_ X (d + 9) 74 [.ref 0, .int a, .int b] h Q := by
  have cw := c
  obtain ⟨⟨ci, o, z3, z8, z7⟩, c1, c2, c3, c4, c5, c6, ⟨ef, g36, e36⟩, c8⟩ := c
  have md := MD.ab ok.1.1
  have di : DI (A 0) := ⟨ok.1.2.2.2.2.2.2.1, ok.1.2.2.2.2.2.2.2.1⟩
  obtain ⟨mi, mr, mt, ms, r, q, mx⟩ := c1
  replace q : MR (A 0) mi mr (nsA A) (nbA A) := q
  replace mx : MX h (A 0) (G_ (A 0)) mt ms (nsA A) := mx
  have mk : MK h 1 (A 0) (G_ (A 0)) (nsA A) (nbA A) := ⟨mi, mr, mt, ms, r, q, mx⟩
  obtain ⟨hns, hnb, e1, e2, e3⟩ := id md
  have q7 : mi 7 = A 0 1 := by rw [e1]; exact q.1.2.2.2.2.1
  have q12 : mi 12 = A 0 2 := by rw [e2]; exact q.1.2.2.2.2.2
  unfold sp_may at k
  by_cases hc : (0 ≤ a ∧ a ≤ A 0 1 - 1) ∧ (0 ≤ b ∧ b ≤ 999)
  case neg =>
    rw [if_neg hc] at k
    have hf := k.er cw (by decide) (by decide) g36
    by_cases c1 : (0 ≤ a ∧ a ≤ A 0 1 - 1) <;> by_cases c2 : (0 ≤ b ∧ b ≤ 999)
    · exact False.elim (hc ⟨c1, c2⟩)
    all_goals simp only [i74_0, i74_1, i74_2, i74_5, i74_8, i74_9, i74_10, i74_13, i74_16, i74_19, i74_20, i74_21, i74_24, i74_25, i74_26, i74_29, i74_30, i74_33, i74_36, i74_37, i74_38, i74_39, i74_42, i74_45, i74_46, i74_49, i74_50, i74_e, cof_gk o, cof_gv o, ob_co o, k_in, k_isSheet, k_isUse, k_isAhead, bi_eq0, decide_true, decide_false, and_self, if_true, if_false, reduceCtorEq, not_true_eq_false, not_false_eq_true, mx_t0, Option.toList_some, Option.toList_none, List.nil_append, List.cons_append, true_and, and_true, eq_self, true_or, or_true, bi_01, mx_nl_i, mx_nl_r, mx_nl_n, mx_nl_f, mx_nl_d, kof_gk r.o, kof_gv r.o, ob_co r.o, k_isSeller o r q7, k_isSort o r q12, k_e1 o g36, k_e2 o g36, k_e3 o g36, k_e4 o g36, k_e5 o g36, c1, c2]
    all_goals exact hf
  rw [if_pos hc] at k
  obtain ⟨c1, c2⟩ := hc
  have c1' := c1
  rw [e1] at c1'
  obtain ⟨s, hs, rfl⟩ := nI_sel (by omega) c1'
  rw [nI_clamp (show s < 2 ^ 31 by omega)] at k
  obtain ⟨q4, q5, q6⟩ := q.2.2.1 s hs
  simp only [i74_0, i74_1, i74_2, i74_5, i74_8, i74_9, i74_10, i74_13, i74_16, i74_19, i74_20, i74_21, i74_24, i74_25, i74_26, i74_29, i74_30, i74_33, i74_36, i74_37, i74_38, i74_39, i74_42, i74_45, i74_46, i74_49, i74_50, i74_e, cof_gk o, cof_gv o, ob_co o, k_in, k_isSheet, k_isUse, k_isAhead, bi_eq0, decide_true, decide_false, and_self, if_true, if_false, reduceCtorEq, not_true_eq_false, not_false_eq_true, mx_t0, Option.toList_some, Option.toList_none, List.nil_append, List.cons_append, true_and, and_true, eq_self, true_or, or_true, bi_01, mx_nl_i, mx_nl_r, mx_nl_n, mx_nl_f, mx_nl_d, kof_gk r.o, kof_gv r.o, ob_co r.o, k_isSeller o r q7, k_isSort o r q12, c1, c2, ar_ik r.g6, ar_ia r.g6, mx_inN (show s < 6 by omega) (show 6 < 2 ^ 31 by decide), nI_clamp (show s < 2 ^ 31 by omega), q6]
  refine k_may r q mx (fun h' f => ?_)
  have k2 := k.fx0 cw f
  have em : my_ (G_ (A 0)) (A 0) s b = decide (A 0 (20 + 8 * s + 6) < 0 ∨ A 0 11 = 1 ∨ ¬ G_ (A 0) 0 b (A 0 (20 + 8 * s + 6)) (A 0 0) (A 0 7) = 0) := by
    unfold my_
    simp only [decide_eq_decide]
    constructor
    · rintro (h | h | h)
      · exact Or.inr (Or.inl h)
      · exact Or.inl h
      · exact Or.inr (Or.inr h)
    · rintro (h | h | h)
      · exact Or.inr (Or.inl h)
      · exact Or.inl h
      · exact Or.inr (Or.inr h)
  rw [em] at k2
  by_cases c3 : (A 0 (20 + 8 * s + 6) < 0 ∨ A 0 11 = 1 ∨ ¬ G_ (A 0) 0 b (A 0 (20 + 8 * s + 6)) (A 0 0) (A 0 7) = 0)
  · simp only [c3, decide_true] at k2
    simp only [i74_0, i74_1, i74_2, i74_5, i74_8, i74_9, i74_10, i74_13, i74_16, i74_19, i74_20, i74_21, i74_24, i74_25, i74_26, i74_29, i74_30, i74_33, i74_36, i74_37, i74_38, i74_39, i74_42, i74_45, i74_46, i74_49, i74_50, i74_e, Option.toList_some, Option.toList_none, List.nil_append, List.cons_append, c3, decide_true, bi_eq0, reduceCtorEq, if_false]
    exact k2
  · simp only [c3, decide_false] at k2
    simp only [i74_0, i74_1, i74_2, i74_5, i74_8, i74_9, i74_10, i74_13, i74_16, i74_19, i74_20, i74_21, i74_24, i74_25, i74_26, i74_29, i74_30, i74_33, i74_36, i74_37, i74_38, i74_39, i74_42, i74_45, i74_46, i74_49, i74_50, i74_e, Option.toList_some, Option.toList_none, List.nil_append, List.cons_append, c3, decide_false, bi_eq0, if_true]
    exact k2
theorem q_law (c : CW h v A) (ok : OK v A) {u a b x f : Int32} (k : KC h (sp_law v A u a b x f) Q) : ev_ X (d + 9) 81 [.ref 0, .int u, .int a, .int b, .int x, .int f] h Q := by
  have cw := c
  obtain ⟨⟨ci, o, z3, z8, z7⟩, c1, c2, c3, c4, c5, c6, ⟨ef, g36, e36⟩, c8⟩ := c
  have md := MD.ab ok.1.1
  have di : DI (A 0) := ⟨ok.1.2.2.2.2.2.2.1, ok.1.2.2.2.2.2.2.2.1⟩
  obtain ⟨mi, mr, mt, ms, r, q, mx⟩ := c1
  replace q : MR (A 0) mi mr (nsA A) (nbA A) := q
  replace mx : MX h (A 0) (G_ (A 0)) mt ms (nsA A) := mx
  have mk : MK h 1 (A 0) (G_ (A 0)) (nsA A) (nbA A) := ⟨mi, mr, mt, ms, r, q, mx⟩
  obtain ⟨hns, hnb, e1, e2, e3⟩ := id md
  have q7 : mi 7 = A 0 1 := by rw [e1]; exact q.1.2.2.2.2.1
  have q12 : mi 12 = A 0 2 := by rw [e2]; exact q.1.2.2.2.2.2
  unfold sp_law at k
  by_cases c1 : (0 ≤ u ∧ u ≤ 1)
  case neg =>
    rw [if_neg c1] at k
    simp only [i81_0, i81_1, i81_4, i81_7, i81_8, i81_9, i81_12, i81_13, i81_14, i81_17, i81_18, i81_19, i81_20, i81_22, i81_24, i81_27, i81_e, cof_gk o, cof_gv o, ob_co o, k_in, k_isSheet, k_isUse, k_isAhead, bi_eq0, decide_true, decide_false, and_self, if_true, if_false, reduceCtorEq, not_true_eq_false, not_false_eq_true, mx_t0, Option.toList_some, Option.toList_none, List.nil_append, List.cons_append, true_and, and_true, eq_self, true_or, or_true, bi_01, mx_nl_i, mx_nl_r, mx_nl_n, mx_nl_f, mx_nl_d, kof_gk r.o, kof_gv r.o, ob_co r.o, k_isSeller o r q7, k_isSort o r q12, k_e1 o g36, k_e2 o g36, k_e3 o g36, k_e4 o g36, k_e5 o g36, c1]
    exact k.er cw (by decide) (by decide) g36
  rw [if_pos c1] at k
  simp only [i81_0, i81_1, i81_4, i81_7, i81_8, i81_9, i81_12, i81_13, i81_14, i81_17, i81_18, i81_19, i81_20, i81_22, i81_24, i81_27, i81_e, cof_gk o, cof_gv o, ob_co o, k_in, k_isSheet, k_isUse, k_isAhead, bi_eq0, decide_true, decide_false, and_self, if_true, if_false, reduceCtorEq, not_true_eq_false, not_false_eq_true, mx_t0, Option.toList_some, Option.toList_none, List.nil_append, List.cons_append, true_and, and_true, eq_self, true_or, or_true, bi_01, mx_nl_i, mx_nl_r, mx_nl_n, mx_nl_f, mx_nl_d, kof_gk r.o, kof_gv r.o, ob_co r.o, k_isSeller o r q7, k_isSort o r q12, c1]
  obtain ⟨w, hw, rfl⟩ := nI_rng (k := 1) (by decide) c1
  rw [nI_clamp (show w < 2 ^ 31 by omega)] at k
  refine k_gives r mx (by omega) (fun h' f => ?_)
  simp only [i81_0, i81_1, i81_4, i81_7, i81_8, i81_9, i81_12, i81_13, i81_14, i81_17, i81_18, i81_19, i81_20, i81_22, i81_24, i81_27, i81_e, Option.toList_some, Option.toList_none, List.nil_append, List.cons_append]
  exact k.fx0 cw f
theorem q_first (c : CW h v A) (ok : OK v A) {a : Int32} (k : KC h (sp_first v A a) Q) : ev_ X (d + 9) 93 [.ref 0, .int a] h Q := by
  have cw := c
  obtain ⟨⟨ci, o, z3, z8, z7⟩, c1, c2, c3, c4, c5, c6, ⟨ef, g36, e36⟩, c8⟩ := c
  have md := MD.ab ok.1.1
  have di : DI (A 0) := ⟨ok.1.2.2.2.2.2.2.1, ok.1.2.2.2.2.2.2.2.1⟩
  obtain ⟨mi, mr, mt, ms, r, q, mx⟩ := c1
  replace q : MR (A 0) mi mr (nsA A) (nbA A) := q
  replace mx : MX h (A 0) (G_ (A 0)) mt ms (nsA A) := mx
  have mk : MK h 1 (A 0) (G_ (A 0)) (nsA A) (nbA A) := ⟨mi, mr, mt, ms, r, q, mx⟩
  obtain ⟨hns, hnb, e1, e2, e3⟩ := id md
  have q7 : mi 7 = A 0 1 := by rw [e1]; exact q.1.2.2.2.2.1
  have q12 : mi 12 = A 0 2 := by rw [e2]; exact q.1.2.2.2.2.2
  unfold sp_first at k
  by_cases c1 : (0 ≤ a ∧ a ≤ A 0 2 - 1)
  case neg =>
    rw [if_neg c1] at k
    simp only [i93_0, i93_1, i93_2, i93_5, i93_8, i93_9, i93_10, i93_13, i93_14, i93_15, i93_18, i93_21, i93_22, i93_23, i93_26, i93_27, i93_28, i93_31, i93_34, i93_35, i93_e, cof_gk o, cof_gv o, ob_co o, k_in, k_isSheet, k_isUse, k_isAhead, bi_eq0, decide_true, decide_false, and_self, if_true, if_false, reduceCtorEq, not_true_eq_false, not_false_eq_true, mx_t0, Option.toList_some, Option.toList_none, List.nil_append, List.cons_append, true_and, and_true, eq_self, true_or, or_true, bi_01, mx_nl_i, mx_nl_r, mx_nl_n, mx_nl_f, mx_nl_d, kof_gk r.o, kof_gv r.o, ob_co r.o, k_isSeller o r q7, k_isSort o r q12, k_e1 o g36, k_e2 o g36, k_e3 o g36, k_e4 o g36, k_e5 o g36, c1]
    exact k.er cw (by decide) (by decide) g36
  rw [if_pos c1] at k
  replace k : KC h (if ch_ (A 0) (fun _ => 0) (nsA A) < 0 then er_ v A 2 else (ch_ (A 0) (fun _ => 0) (nsA A), v, A)) Q := k
  by_cases c2 : ch_ (A 0) (fun _ => 0) (nsA A) < 0
  · rw [if_pos c2] at k
    simp only [i93_0, i93_1, i93_2, i93_5, i93_8, i93_9, i93_10, i93_13, i93_14, i93_15, i93_18, i93_21, i93_22, i93_23, i93_26, i93_27, i93_28, i93_31, i93_34, i93_35, i93_e, cof_gk o, cof_gv o, ob_co o, k_in, k_isSheet, k_isUse, k_isAhead, bi_eq0, decide_true, decide_false, and_self, if_true, if_false, reduceCtorEq, not_true_eq_false, not_false_eq_true, mx_t0, Option.toList_some, Option.toList_none, List.nil_append, List.cons_append, true_and, and_true, eq_self, true_or, or_true, bi_01, mx_nl_i, mx_nl_r, mx_nl_n, mx_nl_f, mx_nl_d, kof_gk r.o, kof_gv r.o, ob_co r.o, k_isSeller o r q7, k_isSort o r q12, k_e1 o g36, k_e2 o g36, k_e3 o g36, k_e4 o g36, k_e5 o g36, c1, k_cheap r q hns, Int32.not_le.mpr c2]
    exact k.er cw (by decide) (by decide) g36
  · rw [if_neg c2] at k
    simp only [i93_0, i93_1, i93_2, i93_5, i93_8, i93_9, i93_10, i93_13, i93_14, i93_15, i93_18, i93_21, i93_22, i93_23, i93_26, i93_27, i93_28, i93_31, i93_34, i93_35, i93_e, cof_gk o, cof_gv o, ob_co o, k_in, k_isSheet, k_isUse, k_isAhead, bi_eq0, decide_true, decide_false, and_self, if_true, if_false, reduceCtorEq, not_true_eq_false, not_false_eq_true, mx_t0, Option.toList_some, Option.toList_none, List.nil_append, List.cons_append, true_and, and_true, eq_self, true_or, or_true, bi_01, mx_nl_i, mx_nl_r, mx_nl_n, mx_nl_f, mx_nl_d, kof_gk r.o, kof_gv r.o, ob_co r.o, k_isSeller o r q7, k_isSort o r q12, c1, k_cheap r q hns, Int32.not_lt.mp c2]
    exact k.same cw
theorem q_ofSort (c : CW h v A) (ok : OK v A) {a b : Int32} (k : KC h (sp_ofSort v A a b) Q) : ev_ X (d + 9) 76 [.ref 0, .int a, .int b] h Q := by
  have cw := c
  obtain ⟨⟨ci, o, z3, z8, z7⟩, c1, c2, c3, c4, c5, c6, ⟨ef, g36, e36⟩, c8⟩ := c
  have md := MD.ab ok.1.1
  have di : DI (A 0) := ⟨ok.1.2.2.2.2.2.2.1, ok.1.2.2.2.2.2.2.2.1⟩
  obtain ⟨mi, mr, mt, ms, r, q, mx⟩ := c1
  replace q : MR (A 0) mi mr (nsA A) (nbA A) := q
  replace mx : MX h (A 0) (G_ (A 0)) mt ms (nsA A) := mx
  have mk : MK h 1 (A 0) (G_ (A 0)) (nsA A) (nbA A) := ⟨mi, mr, mt, ms, r, q, mx⟩
  obtain ⟨hns, hnb, e1, e2, e3⟩ := id md
  have q7 : mi 7 = A 0 1 := by rw [e1]; exact q.1.2.2.2.2.1
  have q12 : mi 12 = A 0 2 := by rw [e2]; exact q.1.2.2.2.2.2
  unfold sp_ofSort at k
  by_cases c1 : (0 ≤ a ∧ a ≤ A 0 2 - 1)
  case neg =>
    rw [if_neg (fun z => c1 z.1)] at k
    simp only [i76_0, i76_1, i76_2, i76_5, i76_8, i76_9, i76_10, i76_13, i76_14, i76_48, i76_49, i76_52, i76_55, i76_56, i76_57, i76_58, i76_59, i76_62, i76_65, i76_66, i76_67, i76_68, i76_69, i76_72, i76_75, i76_76, i76_77, i76_78, i76_79, i76_82, i76_85, i76_86, i76_87, i76_88, i76_89, i76_92, i76_93, i76_96, i76_97, i76_98, i76_99, i76_102, i76_e, i76_15s, cof_gk o, cof_gv o, ob_co o, k_in, k_isSheet, k_isUse, k_isAhead, bi_eq0, decide_true, decide_false, and_self, if_true, if_false, reduceCtorEq, not_true_eq_false, not_false_eq_true, mx_t0, Option.toList_some, Option.toList_none, List.nil_append, List.cons_append, true_and, and_true, eq_self, true_or, or_true, bi_01, mx_nl_i, mx_nl_r, mx_nl_n, mx_nl_f, mx_nl_d, kof_gk r.o, kof_gv r.o, ob_co r.o, k_isSeller o r q7, k_isSort o r q12, k_e1 o g36, k_e2 o g36, k_e3 o g36, k_e4 o g36, k_e5 o g36, c1]
    exact k.er cw (by decide) (by decide) g36
  have c1' := c1
  rw [e2] at c1'
  obtain ⟨s, hs, rfl⟩ := nI_sel (by omega) c1'
  have i8 : mx_in (nI s) 8 = true := mx_inN (by omega) (by decide)
  obtain ⟨q8, q9, q10, q11⟩ := q.2.2.2 s hs
  by_cases c2 : (0 ≤ b ∧ b ≤ 4)
  case neg =>
    rw [if_neg (fun z => c2 z.2)] at k
    have b0 : ¬ b = 0 := fun e => c2 (by rw [e]; decide)
    have b1 : ¬ b = 1 := fun e => c2 (by rw [e]; decide)
    have b2 : ¬ b = 2 := fun e => c2 (by rw [e]; decide)
    have b3 : ¬ b = 3 := fun e => c2 (by rw [e]; decide)
    have b4 : ¬ b = 4 := fun e => c2 (by rw [e]; decide)
    simp only [i76_0, i76_1, i76_2, i76_5, i76_8, i76_9, i76_10, i76_13, i76_14, i76_48, i76_49, i76_52, i76_55, i76_56, i76_57, i76_58, i76_59, i76_62, i76_65, i76_66, i76_67, i76_68, i76_69, i76_72, i76_75, i76_76, i76_77, i76_78, i76_79, i76_82, i76_85, i76_86, i76_87, i76_88, i76_89, i76_92, i76_93, i76_96, i76_97, i76_98, i76_99, i76_102, i76_e, i76_15s, cof_gk o, cof_gv o, ob_co o, k_in, k_isSheet, k_isUse, k_isAhead, bi_eq0, decide_true, decide_false, and_self, if_true, if_false, reduceCtorEq, not_true_eq_false, not_false_eq_true, mx_t0, Option.toList_some, Option.toList_none, List.nil_append, List.cons_append, true_and, and_true, eq_self, true_or, or_true, bi_01, mx_nl_i, mx_nl_r, mx_nl_n, mx_nl_f, mx_nl_d, kof_gk r.o, kof_gv r.o, ob_co r.o, k_isSeller o r q7, k_isSort o r q12, k_e1 o g36, k_e2 o g36, k_e3 o g36, k_e4 o g36, k_e5 o g36, c1, b0, b1, b2, b3, b4]
    exact k.er cw (by decide) (by decide) g36
  rw [if_pos ⟨c1, c2⟩] at k
  obtain ⟨w, hw, rfl⟩ := nI_rng (k := 4) (by decide) c2
  rw [nI_clamp (show s < 2 ^ 31 by omega), nI_clamp (show w < 2 ^ 31 by omega)] at k
  match w, hw with
  | 0, _ =>
    rw [show (nI 0 : Int32) = 0 from rfl, if_neg (by decide), ← q8] at k
    simp only [i76_0, i76_1, i76_2, i76_5, i76_8, i76_9, i76_10, i76_13, i76_14, i76_48, i76_49, i76_52, i76_55, i76_56, i76_57, i76_58, i76_59, i76_62, i76_65, i76_66, i76_67, i76_68, i76_69, i76_72, i76_75, i76_76, i76_77, i76_78, i76_79, i76_82, i76_85, i76_86, i76_87, i76_88, i76_89, i76_92, i76_93, i76_96, i76_97, i76_98, i76_99, i76_102, i76_e, i76_15s, cof_gk o, cof_gv o, ob_co o, k_in, k_isSheet, k_isUse, k_isAhead, bi_eq0, decide_true, decide_false, and_self, if_true, if_false, reduceCtorEq, not_true_eq_false, not_false_eq_true, mx_t0, Option.toList_some, Option.toList_none, List.nil_append, List.cons_append, true_and, and_true, eq_self, true_or, or_true, bi_01, mx_nl_i, mx_nl_r, mx_nl_n, mx_nl_f, mx_nl_d, kof_gk r.o, kof_gv r.o, ob_co r.o, k_isSeller o r q7, k_isSort o r q12, c1, show (nI 0 : Int32) = 0 from rfl, ar_ik r.g8, ar_ia r.g8, i8, nI_clamp (show s < 2 ^ 31 by omega)]
    exact k.same cw
  | 1, _ =>
    rw [show (nI 1 : Int32) = 1 from rfl, if_neg (by decide), ← q9] at k
    simp only [i76_0, i76_1, i76_2, i76_5, i76_8, i76_9, i76_10, i76_13, i76_14, i76_48, i76_49, i76_52, i76_55, i76_56, i76_57, i76_58, i76_59, i76_62, i76_65, i76_66, i76_67, i76_68, i76_69, i76_72, i76_75, i76_76, i76_77, i76_78, i76_79, i76_82, i76_85, i76_86, i76_87, i76_88, i76_89, i76_92, i76_93, i76_96, i76_97, i76_98, i76_99, i76_102, i76_e, i76_15s, cof_gk o, cof_gv o, ob_co o, k_in, k_isSheet, k_isUse, k_isAhead, bi_eq0, decide_true, decide_false, and_self, if_true, if_false, reduceCtorEq, not_true_eq_false, not_false_eq_true, mx_t0, Option.toList_some, Option.toList_none, List.nil_append, List.cons_append, true_and, and_true, eq_self, true_or, or_true, bi_01, mx_nl_i, mx_nl_r, mx_nl_n, mx_nl_f, mx_nl_d, kof_gk r.o, kof_gv r.o, ob_co r.o, k_isSeller o r q7, k_isSort o r q12, c1, show (nI 1 : Int32) = 1 from rfl, show ¬ ((0 : Int32) = 1) from by decide, show ¬ ((0 : Int32) = 2) from by decide, show ¬ ((0 : Int32) = 3) from by decide, show ¬ ((0 : Int32) = 4) from by decide, show ¬ ((0 : Int32) = 5) from by decide, show ¬ ((0 : Int32) = 6) from by decide, show ¬ ((1 : Int32) = 0) from by decide, show ¬ ((1 : Int32) = 2) from by decide, show ¬ ((1 : Int32) = 3) from by decide, show ¬ ((1 : Int32) = 4) from by decide, show ¬ ((1 : Int32) = 5) from by decide, show ¬ ((1 : Int32) = 6) from by decide, show ¬ ((2 : Int32) = 0) from by decide, show ¬ ((2 : Int32) = 1) from by decide, show ¬ ((2 : Int32) = 3) from by decide, show ¬ ((2 : Int32) = 4) from by decide, show ¬ ((2 : Int32) = 5) from by decide, show ¬ ((2 : Int32) = 6) from by decide, show ¬ ((3 : Int32) = 0) from by decide, show ¬ ((3 : Int32) = 1) from by decide, show ¬ ((3 : Int32) = 2) from by decide, show ¬ ((3 : Int32) = 4) from by decide, show ¬ ((3 : Int32) = 5) from by decide, show ¬ ((3 : Int32) = 6) from by decide, show ¬ ((4 : Int32) = 0) from by decide, show ¬ ((4 : Int32) = 1) from by decide, show ¬ ((4 : Int32) = 2) from by decide, show ¬ ((4 : Int32) = 3) from by decide, show ¬ ((4 : Int32) = 5) from by decide, show ¬ ((4 : Int32) = 6) from by decide, show ¬ ((5 : Int32) = 0) from by decide, show ¬ ((5 : Int32) = 1) from by decide, show ¬ ((5 : Int32) = 2) from by decide, show ¬ ((5 : Int32) = 3) from by decide, show ¬ ((5 : Int32) = 4) from by decide, show ¬ ((5 : Int32) = 6) from by decide, show ¬ ((6 : Int32) = 0) from by decide, show ¬ ((6 : Int32) = 1) from by decide, show ¬ ((6 : Int32) = 2) from by decide, show ¬ ((6 : Int32) = 3) from by decide, show ¬ ((6 : Int32) = 4) from by decide, show ¬ ((6 : Int32) = 5) from by decide, ar_ik r.g9, ar_ia r.g9, i8, nI_clamp (show s < 2 ^ 31 by omega)]
    exact k.same cw
  | 2, _ =>
    rw [show (nI 2 : Int32) = 2 from rfl, if_neg (by decide), ← q10] at k
    simp only [i76_0, i76_1, i76_2, i76_5, i76_8, i76_9, i76_10, i76_13, i76_14, i76_48, i76_49, i76_52, i76_55, i76_56, i76_57, i76_58, i76_59, i76_62, i76_65, i76_66, i76_67, i76_68, i76_69, i76_72, i76_75, i76_76, i76_77, i76_78, i76_79, i76_82, i76_85, i76_86, i76_87, i76_88, i76_89, i76_92, i76_93, i76_96, i76_97, i76_98, i76_99, i76_102, i76_e, i76_15s, cof_gk o, cof_gv o, ob_co o, k_in, k_isSheet, k_isUse, k_isAhead, bi_eq0, decide_true, decide_false, and_self, if_true, if_false, reduceCtorEq, not_true_eq_false, not_false_eq_true, mx_t0, Option.toList_some, Option.toList_none, List.nil_append, List.cons_append, true_and, and_true, eq_self, true_or, or_true, bi_01, mx_nl_i, mx_nl_r, mx_nl_n, mx_nl_f, mx_nl_d, kof_gk r.o, kof_gv r.o, ob_co r.o, k_isSeller o r q7, k_isSort o r q12, c1, show (nI 2 : Int32) = 2 from rfl, show ¬ ((0 : Int32) = 1) from by decide, show ¬ ((0 : Int32) = 2) from by decide, show ¬ ((0 : Int32) = 3) from by decide, show ¬ ((0 : Int32) = 4) from by decide, show ¬ ((0 : Int32) = 5) from by decide, show ¬ ((0 : Int32) = 6) from by decide, show ¬ ((1 : Int32) = 0) from by decide, show ¬ ((1 : Int32) = 2) from by decide, show ¬ ((1 : Int32) = 3) from by decide, show ¬ ((1 : Int32) = 4) from by decide, show ¬ ((1 : Int32) = 5) from by decide, show ¬ ((1 : Int32) = 6) from by decide, show ¬ ((2 : Int32) = 0) from by decide, show ¬ ((2 : Int32) = 1) from by decide, show ¬ ((2 : Int32) = 3) from by decide, show ¬ ((2 : Int32) = 4) from by decide, show ¬ ((2 : Int32) = 5) from by decide, show ¬ ((2 : Int32) = 6) from by decide, show ¬ ((3 : Int32) = 0) from by decide, show ¬ ((3 : Int32) = 1) from by decide, show ¬ ((3 : Int32) = 2) from by decide, show ¬ ((3 : Int32) = 4) from by decide, show ¬ ((3 : Int32) = 5) from by decide, show ¬ ((3 : Int32) = 6) from by decide, show ¬ ((4 : Int32) = 0) from by decide, show ¬ ((4 : Int32) = 1) from by decide, show ¬ ((4 : Int32) = 2) from by decide, show ¬ ((4 : Int32) = 3) from by decide, show ¬ ((4 : Int32) = 5) from by decide, show ¬ ((4 : Int32) = 6) from by decide, show ¬ ((5 : Int32) = 0) from by decide, show ¬ ((5 : Int32) = 1) from by decide, show ¬ ((5 : Int32) = 2) from by decide, show ¬ ((5 : Int32) = 3) from by decide, show ¬ ((5 : Int32) = 4) from by decide, show ¬ ((5 : Int32) = 6) from by decide, show ¬ ((6 : Int32) = 0) from by decide, show ¬ ((6 : Int32) = 1) from by decide, show ¬ ((6 : Int32) = 2) from by decide, show ¬ ((6 : Int32) = 3) from by decide, show ¬ ((6 : Int32) = 4) from by decide, show ¬ ((6 : Int32) = 5) from by decide, ar_ik r.g10, ar_ia r.g10, i8, nI_clamp (show s < 2 ^ 31 by omega)]
    exact k.same cw
  | 3, _ =>
    rw [show (nI 3 : Int32) = 3 from rfl, if_neg (by decide), ← q11] at k
    simp only [i76_0, i76_1, i76_2, i76_5, i76_8, i76_9, i76_10, i76_13, i76_14, i76_48, i76_49, i76_52, i76_55, i76_56, i76_57, i76_58, i76_59, i76_62, i76_65, i76_66, i76_67, i76_68, i76_69, i76_72, i76_75, i76_76, i76_77, i76_78, i76_79, i76_82, i76_85, i76_86, i76_87, i76_88, i76_89, i76_92, i76_93, i76_96, i76_97, i76_98, i76_99, i76_102, i76_e, i76_15s, cof_gk o, cof_gv o, ob_co o, k_in, k_isSheet, k_isUse, k_isAhead, bi_eq0, decide_true, decide_false, and_self, if_true, if_false, reduceCtorEq, not_true_eq_false, not_false_eq_true, mx_t0, Option.toList_some, Option.toList_none, List.nil_append, List.cons_append, true_and, and_true, eq_self, true_or, or_true, bi_01, mx_nl_i, mx_nl_r, mx_nl_n, mx_nl_f, mx_nl_d, kof_gk r.o, kof_gv r.o, ob_co r.o, k_isSeller o r q7, k_isSort o r q12, c1, show (nI 3 : Int32) = 3 from rfl, show ¬ ((0 : Int32) = 1) from by decide, show ¬ ((0 : Int32) = 2) from by decide, show ¬ ((0 : Int32) = 3) from by decide, show ¬ ((0 : Int32) = 4) from by decide, show ¬ ((0 : Int32) = 5) from by decide, show ¬ ((0 : Int32) = 6) from by decide, show ¬ ((1 : Int32) = 0) from by decide, show ¬ ((1 : Int32) = 2) from by decide, show ¬ ((1 : Int32) = 3) from by decide, show ¬ ((1 : Int32) = 4) from by decide, show ¬ ((1 : Int32) = 5) from by decide, show ¬ ((1 : Int32) = 6) from by decide, show ¬ ((2 : Int32) = 0) from by decide, show ¬ ((2 : Int32) = 1) from by decide, show ¬ ((2 : Int32) = 3) from by decide, show ¬ ((2 : Int32) = 4) from by decide, show ¬ ((2 : Int32) = 5) from by decide, show ¬ ((2 : Int32) = 6) from by decide, show ¬ ((3 : Int32) = 0) from by decide, show ¬ ((3 : Int32) = 1) from by decide, show ¬ ((3 : Int32) = 2) from by decide, show ¬ ((3 : Int32) = 4) from by decide, show ¬ ((3 : Int32) = 5) from by decide, show ¬ ((3 : Int32) = 6) from by decide, show ¬ ((4 : Int32) = 0) from by decide, show ¬ ((4 : Int32) = 1) from by decide, show ¬ ((4 : Int32) = 2) from by decide, show ¬ ((4 : Int32) = 3) from by decide, show ¬ ((4 : Int32) = 5) from by decide, show ¬ ((4 : Int32) = 6) from by decide, show ¬ ((5 : Int32) = 0) from by decide, show ¬ ((5 : Int32) = 1) from by decide, show ¬ ((5 : Int32) = 2) from by decide, show ¬ ((5 : Int32) = 3) from by decide, show ¬ ((5 : Int32) = 4) from by decide, show ¬ ((5 : Int32) = 6) from by decide, show ¬ ((6 : Int32) = 0) from by decide, show ¬ ((6 : Int32) = 1) from by decide, show ¬ ((6 : Int32) = 2) from by decide, show ¬ ((6 : Int32) = 3) from by decide, show ¬ ((6 : Int32) = 4) from by decide, show ¬ ((6 : Int32) = 5) from by decide, ar_ik r.g11, ar_ia r.g11, i8, nI_clamp (show s < 2 ^ 31 by omega)]
    exact k.same cw
  | 4, _ =>
    rw [show (nI 4 : Int32) = 4 from rfl, if_pos rfl] at k
    simp only [i76_0, i76_1, i76_2, i76_5, i76_8, i76_9, i76_10, i76_13, i76_14, i76_48, i76_49, i76_52, i76_55, i76_56, i76_57, i76_58, i76_59, i76_62, i76_65, i76_66, i76_67, i76_68, i76_69, i76_72, i76_75, i76_76, i76_77, i76_78, i76_79, i76_82, i76_85, i76_86, i76_87, i76_88, i76_89, i76_92, i76_93, i76_96, i76_97, i76_98, i76_99, i76_102, i76_e, i76_15s, cof_gk o, cof_gv o, ob_co o, k_in, k_isSheet, k_isUse, k_isAhead, bi_eq0, decide_true, decide_false, and_self, if_true, if_false, reduceCtorEq, not_true_eq_false, not_false_eq_true, mx_t0, Option.toList_some, Option.toList_none, List.nil_append, List.cons_append, true_and, and_true, eq_self, true_or, or_true, bi_01, mx_nl_i, mx_nl_r, mx_nl_n, mx_nl_f, mx_nl_d, kof_gk r.o, kof_gv r.o, ob_co r.o, k_isSeller o r q7, k_isSort o r q12, c1, show (nI 4 : Int32) = 4 from rfl, show ¬ ((0 : Int32) = 1) from by decide, show ¬ ((0 : Int32) = 2) from by decide, show ¬ ((0 : Int32) = 3) from by decide, show ¬ ((0 : Int32) = 4) from by decide, show ¬ ((0 : Int32) = 5) from by decide, show ¬ ((0 : Int32) = 6) from by decide, show ¬ ((1 : Int32) = 0) from by decide, show ¬ ((1 : Int32) = 2) from by decide, show ¬ ((1 : Int32) = 3) from by decide, show ¬ ((1 : Int32) = 4) from by decide, show ¬ ((1 : Int32) = 5) from by decide, show ¬ ((1 : Int32) = 6) from by decide, show ¬ ((2 : Int32) = 0) from by decide, show ¬ ((2 : Int32) = 1) from by decide, show ¬ ((2 : Int32) = 3) from by decide, show ¬ ((2 : Int32) = 4) from by decide, show ¬ ((2 : Int32) = 5) from by decide, show ¬ ((2 : Int32) = 6) from by decide, show ¬ ((3 : Int32) = 0) from by decide, show ¬ ((3 : Int32) = 1) from by decide, show ¬ ((3 : Int32) = 2) from by decide, show ¬ ((3 : Int32) = 4) from by decide, show ¬ ((3 : Int32) = 5) from by decide, show ¬ ((3 : Int32) = 6) from by decide, show ¬ ((4 : Int32) = 0) from by decide, show ¬ ((4 : Int32) = 1) from by decide, show ¬ ((4 : Int32) = 2) from by decide, show ¬ ((4 : Int32) = 3) from by decide, show ¬ ((4 : Int32) = 5) from by decide, show ¬ ((4 : Int32) = 6) from by decide, show ¬ ((5 : Int32) = 0) from by decide, show ¬ ((5 : Int32) = 1) from by decide, show ¬ ((5 : Int32) = 2) from by decide, show ¬ ((5 : Int32) = 3) from by decide, show ¬ ((5 : Int32) = 4) from by decide, show ¬ ((5 : Int32) = 6) from by decide, show ¬ ((6 : Int32) = 0) from by decide, show ¬ ((6 : Int32) = 1) from by decide, show ¬ ((6 : Int32) = 2) from by decide, show ¬ ((6 : Int32) = 3) from by decide, show ¬ ((6 : Int32) = 4) from by decide, show ¬ ((6 : Int32) = 5) from by decide, k_feels r q hs hnb e3]
    exact k.same cw
  | n + 5, h => omega
theorem k_fitsNow {b c : Int32} : ev_ X (d + 1) 116 [.int b, .int c] h Q = Q (some (.int (bi_ (decide ((0 ≤ b ∧ b ≤ 4) ∧ (0 ≤ c ∧ c ≤ (if b = 0 then 2 else if b = 4 then 999 else 40))))))) h := by
  by_cases c2 : (0 ≤ b ∧ b ≤ 4)
  · obtain ⟨w, hw, rfl⟩ := nI_rng (k := 4) (by decide) c2
    match w, hw with
    | 0, _ =>
      simp only [i116_0, i116_36, i116_37, i116_38, i116_39, i116_42, i116_43, i116_44, i116_45, i116_47, i116_50, i116_51, i116_52, i116_53, i116_56, i116_59, i116_60, i116_61, i116_e, i116_1s, show (nI 0 : Int32) = 0 from rfl, show ((0 : Int32) ≤ 0 ∧ (0 : Int32) ≤ 4) from by decide, show ¬ ((0 : Int32) = 1) from by decide, show ¬ ((0 : Int32) = 2) from by decide, show ¬ ((0 : Int32) = 3) from by decide, show ¬ ((0 : Int32) = 4) from by decide, show ¬ ((0 : Int32) = 5) from by decide, show ¬ ((0 : Int32) = 6) from by decide, show ¬ ((1 : Int32) = 0) from by decide, show ¬ ((1 : Int32) = 2) from by decide, show ¬ ((1 : Int32) = 3) from by decide, show ¬ ((1 : Int32) = 4) from by decide, show ¬ ((1 : Int32) = 5) from by decide, show ¬ ((1 : Int32) = 6) from by decide, show ¬ ((2 : Int32) = 0) from by decide, show ¬ ((2 : Int32) = 1) from by decide, show ¬ ((2 : Int32) = 3) from by decide, show ¬ ((2 : Int32) = 4) from by decide, show ¬ ((2 : Int32) = 5) from by decide, show ¬ ((2 : Int32) = 6) from by decide, show ¬ ((3 : Int32) = 0) from by decide, show ¬ ((3 : Int32) = 1) from by decide, show ¬ ((3 : Int32) = 2) from by decide, show ¬ ((3 : Int32) = 4) from by decide, show ¬ ((3 : Int32) = 5) from by decide, show ¬ ((3 : Int32) = 6) from by decide, show ¬ ((4 : Int32) = 0) from by decide, show ¬ ((4 : Int32) = 1) from by decide, show ¬ ((4 : Int32) = 2) from by decide, show ¬ ((4 : Int32) = 3) from by decide, show ¬ ((4 : Int32) = 5) from by decide, show ¬ ((4 : Int32) = 6) from by decide, show ¬ ((5 : Int32) = 0) from by decide, show ¬ ((5 : Int32) = 1) from by decide, show ¬ ((5 : Int32) = 2) from by decide, show ¬ ((5 : Int32) = 3) from by decide, show ¬ ((5 : Int32) = 4) from by decide, show ¬ ((5 : Int32) = 6) from by decide, show ¬ ((6 : Int32) = 0) from by decide, show ¬ ((6 : Int32) = 1) from by decide, show ¬ ((6 : Int32) = 2) from by decide, show ¬ ((6 : Int32) = 3) from by decide, show ¬ ((6 : Int32) = 4) from by decide, show ¬ ((6 : Int32) = 5) from by decide, if_true, k_in, Option.toList_some, Option.toList_none, List.nil_append, List.cons_append, true_and, and_true, eq_self, true_or, or_true, bi_01, mx_nl_i, mx_nl_r, mx_nl_n, mx_nl_f, mx_nl_d]
    | 1, _ =>
      simp only [i116_0, i116_36, i116_37, i116_38, i116_39, i116_42, i116_43, i116_44, i116_45, i116_47, i116_50, i116_51, i116_52, i116_53, i116_56, i116_59, i116_60, i116_61, i116_e, i116_1s, show (nI 1 : Int32) = 1 from rfl, show ((0 : Int32) ≤ 1 ∧ (1 : Int32) ≤ 4) from by decide, show ¬ ((0 : Int32) = 1) from by decide, show ¬ ((0 : Int32) = 2) from by decide, show ¬ ((0 : Int32) = 3) from by decide, show ¬ ((0 : Int32) = 4) from by decide, show ¬ ((0 : Int32) = 5) from by decide, show ¬ ((0 : Int32) = 6) from by decide, show ¬ ((1 : Int32) = 0) from by decide, show ¬ ((1 : Int32) = 2) from by decide, show ¬ ((1 : Int32) = 3) from by decide, show ¬ ((1 : Int32) = 4) from by decide, show ¬ ((1 : Int32) = 5) from by decide, show ¬ ((1 : Int32) = 6) from by decide, show ¬ ((2 : Int32) = 0) from by decide, show ¬ ((2 : Int32) = 1) from by decide, show ¬ ((2 : Int32) = 3) from by decide, show ¬ ((2 : Int32) = 4) from by decide, show ¬ ((2 : Int32) = 5) from by decide, show ¬ ((2 : Int32) = 6) from by decide, show ¬ ((3 : Int32) = 0) from by decide, show ¬ ((3 : Int32) = 1) from by decide, show ¬ ((3 : Int32) = 2) from by decide, show ¬ ((3 : Int32) = 4) from by decide, show ¬ ((3 : Int32) = 5) from by decide, show ¬ ((3 : Int32) = 6) from by decide, show ¬ ((4 : Int32) = 0) from by decide, show ¬ ((4 : Int32) = 1) from by decide, show ¬ ((4 : Int32) = 2) from by decide, show ¬ ((4 : Int32) = 3) from by decide, show ¬ ((4 : Int32) = 5) from by decide, show ¬ ((4 : Int32) = 6) from by decide, show ¬ ((5 : Int32) = 0) from by decide, show ¬ ((5 : Int32) = 1) from by decide, show ¬ ((5 : Int32) = 2) from by decide, show ¬ ((5 : Int32) = 3) from by decide, show ¬ ((5 : Int32) = 4) from by decide, show ¬ ((5 : Int32) = 6) from by decide, show ¬ ((6 : Int32) = 0) from by decide, show ¬ ((6 : Int32) = 1) from by decide, show ¬ ((6 : Int32) = 2) from by decide, show ¬ ((6 : Int32) = 3) from by decide, show ¬ ((6 : Int32) = 4) from by decide, show ¬ ((6 : Int32) = 5) from by decide, if_true, if_false, k_in, Option.toList_some, Option.toList_none, List.nil_append, List.cons_append, true_and, and_true, eq_self, true_or, or_true, bi_01, mx_nl_i, mx_nl_r, mx_nl_n, mx_nl_f, mx_nl_d]
    | 2, _ =>
      simp only [i116_0, i116_36, i116_37, i116_38, i116_39, i116_42, i116_43, i116_44, i116_45, i116_47, i116_50, i116_51, i116_52, i116_53, i116_56, i116_59, i116_60, i116_61, i116_e, i116_1s, show (nI 2 : Int32) = 2 from rfl, show ((0 : Int32) ≤ 2 ∧ (2 : Int32) ≤ 4) from by decide, show ¬ ((0 : Int32) = 1) from by decide, show ¬ ((0 : Int32) = 2) from by decide, show ¬ ((0 : Int32) = 3) from by decide, show ¬ ((0 : Int32) = 4) from by decide, show ¬ ((0 : Int32) = 5) from by decide, show ¬ ((0 : Int32) = 6) from by decide, show ¬ ((1 : Int32) = 0) from by decide, show ¬ ((1 : Int32) = 2) from by decide, show ¬ ((1 : Int32) = 3) from by decide, show ¬ ((1 : Int32) = 4) from by decide, show ¬ ((1 : Int32) = 5) from by decide, show ¬ ((1 : Int32) = 6) from by decide, show ¬ ((2 : Int32) = 0) from by decide, show ¬ ((2 : Int32) = 1) from by decide, show ¬ ((2 : Int32) = 3) from by decide, show ¬ ((2 : Int32) = 4) from by decide, show ¬ ((2 : Int32) = 5) from by decide, show ¬ ((2 : Int32) = 6) from by decide, show ¬ ((3 : Int32) = 0) from by decide, show ¬ ((3 : Int32) = 1) from by decide, show ¬ ((3 : Int32) = 2) from by decide, show ¬ ((3 : Int32) = 4) from by decide, show ¬ ((3 : Int32) = 5) from by decide, show ¬ ((3 : Int32) = 6) from by decide, show ¬ ((4 : Int32) = 0) from by decide, show ¬ ((4 : Int32) = 1) from by decide, show ¬ ((4 : Int32) = 2) from by decide, show ¬ ((4 : Int32) = 3) from by decide, show ¬ ((4 : Int32) = 5) from by decide, show ¬ ((4 : Int32) = 6) from by decide, show ¬ ((5 : Int32) = 0) from by decide, show ¬ ((5 : Int32) = 1) from by decide, show ¬ ((5 : Int32) = 2) from by decide, show ¬ ((5 : Int32) = 3) from by decide, show ¬ ((5 : Int32) = 4) from by decide, show ¬ ((5 : Int32) = 6) from by decide, show ¬ ((6 : Int32) = 0) from by decide, show ¬ ((6 : Int32) = 1) from by decide, show ¬ ((6 : Int32) = 2) from by decide, show ¬ ((6 : Int32) = 3) from by decide, show ¬ ((6 : Int32) = 4) from by decide, show ¬ ((6 : Int32) = 5) from by decide, if_true, if_false, k_in, Option.toList_some, Option.toList_none, List.nil_append, List.cons_append, true_and, and_true, eq_self, true_or, or_true, bi_01, mx_nl_i, mx_nl_r, mx_nl_n, mx_nl_f, mx_nl_d]
    | 3, _ =>
      simp only [i116_0, i116_36, i116_37, i116_38, i116_39, i116_42, i116_43, i116_44, i116_45, i116_47, i116_50, i116_51, i116_52, i116_53, i116_56, i116_59, i116_60, i116_61, i116_e, i116_1s, show (nI 3 : Int32) = 3 from rfl, show ((0 : Int32) ≤ 3 ∧ (3 : Int32) ≤ 4) from by decide, show ¬ ((0 : Int32) = 1) from by decide, show ¬ ((0 : Int32) = 2) from by decide, show ¬ ((0 : Int32) = 3) from by decide, show ¬ ((0 : Int32) = 4) from by decide, show ¬ ((0 : Int32) = 5) from by decide, show ¬ ((0 : Int32) = 6) from by decide, show ¬ ((1 : Int32) = 0) from by decide, show ¬ ((1 : Int32) = 2) from by decide, show ¬ ((1 : Int32) = 3) from by decide, show ¬ ((1 : Int32) = 4) from by decide, show ¬ ((1 : Int32) = 5) from by decide, show ¬ ((1 : Int32) = 6) from by decide, show ¬ ((2 : Int32) = 0) from by decide, show ¬ ((2 : Int32) = 1) from by decide, show ¬ ((2 : Int32) = 3) from by decide, show ¬ ((2 : Int32) = 4) from by decide, show ¬ ((2 : Int32) = 5) from by decide, show ¬ ((2 : Int32) = 6) from by decide, show ¬ ((3 : Int32) = 0) from by decide, show ¬ ((3 : Int32) = 1) from by decide, show ¬ ((3 : Int32) = 2) from by decide, show ¬ ((3 : Int32) = 4) from by decide, show ¬ ((3 : Int32) = 5) from by decide, show ¬ ((3 : Int32) = 6) from by decide, show ¬ ((4 : Int32) = 0) from by decide, show ¬ ((4 : Int32) = 1) from by decide, show ¬ ((4 : Int32) = 2) from by decide, show ¬ ((4 : Int32) = 3) from by decide, show ¬ ((4 : Int32) = 5) from by decide, show ¬ ((4 : Int32) = 6) from by decide, show ¬ ((5 : Int32) = 0) from by decide, show ¬ ((5 : Int32) = 1) from by decide, show ¬ ((5 : Int32) = 2) from by decide, show ¬ ((5 : Int32) = 3) from by decide, show ¬ ((5 : Int32) = 4) from by decide, show ¬ ((5 : Int32) = 6) from by decide, show ¬ ((6 : Int32) = 0) from by decide, show ¬ ((6 : Int32) = 1) from by decide, show ¬ ((6 : Int32) = 2) from by decide, show ¬ ((6 : Int32) = 3) from by decide, show ¬ ((6 : Int32) = 4) from by decide, show ¬ ((6 : Int32) = 5) from by decide, if_true, if_false, k_in, Option.toList_some, Option.toList_none, List.nil_append, List.cons_append, true_and, and_true, eq_self, true_or, or_true, bi_01, mx_nl_i, mx_nl_r, mx_nl_n, mx_nl_f, mx_nl_d]
    | 4, _ =>
      simp only [i116_0, i116_36, i116_37, i116_38, i116_39, i116_42, i116_43, i116_44, i116_45, i116_47, i116_50, i116_51, i116_52, i116_53, i116_56, i116_59, i116_60, i116_61, i116_e, i116_1s, show (nI 4 : Int32) = 4 from rfl, show ((0 : Int32) ≤ 4 ∧ (4 : Int32) ≤ 4) from by decide, show ¬ ((0 : Int32) = 1) from by decide, show ¬ ((0 : Int32) = 2) from by decide, show ¬ ((0 : Int32) = 3) from by decide, show ¬ ((0 : Int32) = 4) from by decide, show ¬ ((0 : Int32) = 5) from by decide, show ¬ ((0 : Int32) = 6) from by decide, show ¬ ((1 : Int32) = 0) from by decide, show ¬ ((1 : Int32) = 2) from by decide, show ¬ ((1 : Int32) = 3) from by decide, show ¬ ((1 : Int32) = 4) from by decide, show ¬ ((1 : Int32) = 5) from by decide, show ¬ ((1 : Int32) = 6) from by decide, show ¬ ((2 : Int32) = 0) from by decide, show ¬ ((2 : Int32) = 1) from by decide, show ¬ ((2 : Int32) = 3) from by decide, show ¬ ((2 : Int32) = 4) from by decide, show ¬ ((2 : Int32) = 5) from by decide, show ¬ ((2 : Int32) = 6) from by decide, show ¬ ((3 : Int32) = 0) from by decide, show ¬ ((3 : Int32) = 1) from by decide, show ¬ ((3 : Int32) = 2) from by decide, show ¬ ((3 : Int32) = 4) from by decide, show ¬ ((3 : Int32) = 5) from by decide, show ¬ ((3 : Int32) = 6) from by decide, show ¬ ((4 : Int32) = 0) from by decide, show ¬ ((4 : Int32) = 1) from by decide, show ¬ ((4 : Int32) = 2) from by decide, show ¬ ((4 : Int32) = 3) from by decide, show ¬ ((4 : Int32) = 5) from by decide, show ¬ ((4 : Int32) = 6) from by decide, show ¬ ((5 : Int32) = 0) from by decide, show ¬ ((5 : Int32) = 1) from by decide, show ¬ ((5 : Int32) = 2) from by decide, show ¬ ((5 : Int32) = 3) from by decide, show ¬ ((5 : Int32) = 4) from by decide, show ¬ ((5 : Int32) = 6) from by decide, show ¬ ((6 : Int32) = 0) from by decide, show ¬ ((6 : Int32) = 1) from by decide, show ¬ ((6 : Int32) = 2) from by decide, show ¬ ((6 : Int32) = 3) from by decide, show ¬ ((6 : Int32) = 4) from by decide, show ¬ ((6 : Int32) = 5) from by decide, if_true, if_false, k_in, Option.toList_some, Option.toList_none, List.nil_append, List.cons_append, true_and, and_true, eq_self, true_or, or_true, bi_01, mx_nl_i, mx_nl_r, mx_nl_n, mx_nl_f, mx_nl_d]
    | n + 5, h => omega
  · have b0 : ¬ b = 0 := fun e => c2 (by rw [e]; decide)
    have b1 : ¬ b = 1 := fun e => c2 (by rw [e]; decide)
    have b2 : ¬ b = 2 := fun e => c2 (by rw [e]; decide)
    have b3 : ¬ b = 3 := fun e => c2 (by rw [e]; decide)
    have b4 : ¬ b = 4 := fun e => c2 (by rw [e]; decide)
    simp only [i116_0, i116_36, i116_37, i116_38, i116_39, i116_42, i116_43, i116_44, i116_45, i116_47, i116_50, i116_51, i116_52, i116_53, i116_56, i116_59, i116_60, i116_e, i116_1s, i116_61 mx_01a, b0, b1, b2, b3, b4, c2, if_false, false_and, decide_false]
    rfl
set_option maxHeartbeats 1000000 in
theorem q_now (c : CW h v A) (ok : OK v A) {a b : Int32} (k : KC h (sp_now v A a b) Q) : ev_ X (d + 9) 78 [.ref 0, .int a, .int b] h Q := by
  have cw := c
  obtain ⟨⟨ci, o, z3, z8, z7⟩, c1, c2, c3, c4, c5, c6, ⟨ef, g36, e36⟩, c8⟩ := c
  have md := MD.ab ok.1.1
  have di : DI (A 0) := ⟨ok.1.2.2.2.2.2.2.1, ok.1.2.2.2.2.2.2.2.1⟩
  obtain ⟨mi, mr, mt, ms, r, q, mx⟩ := c1
  replace q : MR (A 0) mi mr (nsA A) (nbA A) := q
  replace mx : MX h (A 0) (G_ (A 0)) mt ms (nsA A) := mx
  have mk : MK h 1 (A 0) (G_ (A 0)) (nsA A) (nbA A) := ⟨mi, mr, mt, ms, r, q, mx⟩
  obtain ⟨hns, hnb, e1, e2, e3⟩ := id md
  have q7 : mi 7 = A 0 1 := by rw [e1]; exact q.1.2.2.2.2.1
  have q12 : mi 12 = A 0 2 := by rw [e2]; exact q.1.2.2.2.2.2
  unfold sp_now at k
  by_cases hc : (0 ≤ a ∧ a ≤ 4) ∧ (0 ≤ b ∧ b ≤ (if a = 0 then 2 else if a = 4 then 999 else 40))
  case neg =>
    rw [if_neg hc] at k
    simp only [i78_0, i78_1, i78_2, i78_5, i78_8, i78_9, i78_10, i78_13, i78_14, i78_15, i78_18, i78_19, i78_22, i78_25, i78_26, i78_27, i78_30, i78_31, i78_34, i78_37, i78_38, i78_39, i78_42, i78_43, i78_46, i78_49, i78_50, i78_51, i78_52, i78_53, i78_54, i78_55, i78_58, i78_61, i78_62, i78_63, i78_64, i78_65, i78_66, i78_69, i78_70, i78_73, i78_76, i78_77, i78_78, i78_81, i78_82, i78_85, i78_86, i78_e, cof_gk o, cof_gv o, ob_co o, k_in, k_isSheet, k_isUse, k_isAhead, bi_eq0, decide_true, decide_false, and_self, if_true, if_false, reduceCtorEq, not_true_eq_false, not_false_eq_true, mx_t0, Option.toList_some, Option.toList_none, List.nil_append, List.cons_append, true_and, and_true, eq_self, true_or, or_true, bi_01, mx_nl_i, mx_nl_r, mx_nl_n, mx_nl_f, mx_nl_d, kof_gk r.o, kof_gv r.o, ob_co r.o, k_isSeller o r q7, k_isSort o r q12, k_e1 o g36, k_e2 o g36, k_e3 o g36, k_e4 o g36, k_e5 o g36, k_fitsNow, hc]
    exact k.er cw (by decide) (by decide) g36
  rw [if_pos hc] at k
  have hf : ∀ Q', ev_ X (d + 8) 116 [.int a, .int b] h Q' = Q' (some (.int (bi_ true))) h := fun Q' => by rw [k_fitsNow, decide_eq_true hc]
  obtain ⟨w, hw, rfl⟩ := nI_rng (k := 4) (by decide) hc.1
  rw [nI_clamp (show w < 2 ^ 31 by omega)] at k
  have heat : ∀ j, j < 3 → (nI w : Int32) - 1 = nI j → w = j + 1 → ¬ (nI w : Int32) = 0 → ¬ (3 : Int32) < nI w → ev_ X (d + 9) 78 [.ref 0, .int (nI w), .int b] h Q := by
    intro j hj ej ew n0 n3
    have qh := q.2.1 j hj
    have fx : FX 1 13 h (h.set (1 + 1) (.inl (0, 3, .inl (upd (mr 1) j b)))) := FX.set (by omega) (by omega) (by omega)
    simp only [i78_0, i78_1, i78_2, i78_5, i78_8, i78_9, i78_10, i78_13, i78_14, i78_15, i78_18, i78_19, i78_22, i78_25, i78_26, i78_27, i78_30, i78_31, i78_34, i78_37, i78_38, i78_39, i78_42, i78_43, i78_46, i78_49, i78_50, i78_51, i78_52, i78_53, i78_54, i78_55, i78_58, i78_61, i78_62, i78_63, i78_64, i78_65, i78_66, i78_69, i78_70, i78_73, i78_76, i78_77, i78_78, i78_81, i78_82, i78_85, i78_86, i78_e, cof_gk o, cof_gv o, ob_co o, k_in, k_isSheet, k_isUse, k_isAhead, bi_eq0, decide_true, decide_false, and_self, if_true, if_false, reduceCtorEq, not_true_eq_false, not_false_eq_true, mx_t0, Option.toList_some, Option.toList_none, List.nil_append, List.cons_append, true_and, and_true, eq_self, true_or, or_true, bi_01, mx_nl_i, mx_nl_r, mx_nl_n, mx_nl_f, mx_nl_d, kof_gk r.o, kof_gv r.o, ob_co r.o, k_isSeller o r q7, k_isSort o r q12, hf, n0, n3, ej, ar_ik r.g1, ar_ia r.g1, ar_is r.g1, mx_inN hj (show 3 < 2 ^ 31 by decide), nI_clamp (show j < 2 ^ 31 by omega), qh]
    rw [show 3 + w = 4 + j by omega] at k
    exact k.up cw ok fx ⟨mi, _, mt, ms, r.s1, q.wh hj, (mx.ev fx.2.2).cg (fun t ht i hi => by rw [pk_un (by omega)])⟩ (by omega) (by omega) (by omega) (by omega) (by omega)
  clear hc
  match w, hw with
  | 0, _ =>
    have hf' := hf
    rw [show (nI 0 : Int32) = 0 from rfl] at hf'
    have fx : FX 1 13 h (h.set 1 (.inr (3, kof 1 (upd mi 1 b)))) := FX.set (by omega) (by omega) (by omega)
    simp only [i78_0, i78_1, i78_2, i78_5, i78_8, i78_9, i78_10, i78_13, i78_14, i78_15, i78_18, i78_19, i78_22, i78_25, i78_26, i78_27, i78_30, i78_31, i78_34, i78_37, i78_38, i78_39, i78_42, i78_43, i78_46, i78_49, i78_50, i78_51, i78_52, i78_53, i78_54, i78_55, i78_58, i78_61, i78_62, i78_63, i78_64, i78_65, i78_66, i78_69, i78_70, i78_73, i78_76, i78_77, i78_78, i78_81, i78_82, i78_85, i78_86, i78_e, cof_gk o, cof_gv o, ob_co o, k_in, k_isSheet, k_isUse, k_isAhead, bi_eq0, decide_true, decide_false, and_self, if_true, if_false, reduceCtorEq, not_true_eq_false, not_false_eq_true, mx_t0, Option.toList_some, Option.toList_none, List.nil_append, List.cons_append, true_and, and_true, eq_self, true_or, or_true, bi_01, mx_nl_i, mx_nl_r, mx_nl_n, mx_nl_f, mx_nl_d, kof_gk r.o, kof_gv r.o, ob_co r.o, k_isSeller o r q7, k_isSort o r q12, hf', show (nI 0 : Int32) = 0 from rfl, kof_pk1 r.o, kof_pf1 r.o, q.1.2.1]
    exact k.up cw ok fx ⟨_, mr, mt, ms, r.sv, q.w1, (mx.ev fx.2.2).cg (fun t ht i hi => by rw [pk_un (by omega)])⟩ (by omega) (by omega) (by omega) (by omega) (by omega)
  | 1, _ => exact heat 0 (by omega) rfl rfl (by decide) (by decide)
  | 2, _ => exact heat 1 (by omega) rfl rfl (by decide) (by decide)
  | 3, _ => exact heat 2 (by omega) rfl rfl (by decide) (by decide)
  | 4, _ =>
    have hf' := hf
    rw [show (nI 4 : Int32) = 4 from rfl] at hf'
    have fx : FX 1 13 h (h.set 1 (.inr (3, kof 1 (upd mi 2 b)))) := FX.set (by omega) (by omega) (by omega)
    simp only [i78_0, i78_1, i78_2, i78_5, i78_8, i78_9, i78_10, i78_13, i78_14, i78_15, i78_18, i78_19, i78_22, i78_25, i78_26, i78_27, i78_30, i78_31, i78_34, i78_37, i78_38, i78_39, i78_42, i78_43, i78_46, i78_49, i78_50, i78_51, i78_52, i78_53, i78_54, i78_55, i78_58, i78_61, i78_62, i78_63, i78_64, i78_65, i78_66, i78_69, i78_70, i78_73, i78_76, i78_77, i78_78, i78_81, i78_82, i78_85, i78_86, i78_e, cof_gk o, cof_gv o, ob_co o, k_in, k_isSheet, k_isUse, k_isAhead, bi_eq0, decide_true, decide_false, and_self, if_true, if_false, reduceCtorEq, not_true_eq_false, not_false_eq_true, mx_t0, Option.toList_some, Option.toList_none, List.nil_append, List.cons_append, true_and, and_true, eq_self, true_or, or_true, bi_01, mx_nl_i, mx_nl_r, mx_nl_n, mx_nl_f, mx_nl_d, kof_gk r.o, kof_gv r.o, ob_co r.o, k_isSeller o r q7, k_isSort o r q12, hf', show (nI 4 : Int32) = 4 from rfl, show ¬ ((0 : Int32) = 1) from by decide, show ¬ ((0 : Int32) = 2) from by decide, show ¬ ((0 : Int32) = 3) from by decide, show ¬ ((0 : Int32) = 4) from by decide, show ¬ ((0 : Int32) = 5) from by decide, show ¬ ((0 : Int32) = 6) from by decide, show ¬ ((1 : Int32) = 0) from by decide, show ¬ ((1 : Int32) = 2) from by decide, show ¬ ((1 : Int32) = 3) from by decide, show ¬ ((1 : Int32) = 4) from by decide, show ¬ ((1 : Int32) = 5) from by decide, show ¬ ((1 : Int32) = 6) from by decide, show ¬ ((2 : Int32) = 0) from by decide, show ¬ ((2 : Int32) = 1) from by decide, show ¬ ((2 : Int32) = 3) from by decide, show ¬ ((2 : Int32) = 4) from by decide, show ¬ ((2 : Int32) = 5) from by decide, show ¬ ((2 : Int32) = 6) from by decide, show ¬ ((3 : Int32) = 0) from by decide, show ¬ ((3 : Int32) = 1) from by decide, show ¬ ((3 : Int32) = 2) from by decide, show ¬ ((3 : Int32) = 4) from by decide, show ¬ ((3 : Int32) = 5) from by decide, show ¬ ((3 : Int32) = 6) from by decide, show ¬ ((4 : Int32) = 0) from by decide, show ¬ ((4 : Int32) = 1) from by decide, show ¬ ((4 : Int32) = 2) from by decide, show ¬ ((4 : Int32) = 3) from by decide, show ¬ ((4 : Int32) = 5) from by decide, show ¬ ((4 : Int32) = 6) from by decide, show ¬ ((5 : Int32) = 0) from by decide, show ¬ ((5 : Int32) = 1) from by decide, show ¬ ((5 : Int32) = 2) from by decide, show ¬ ((5 : Int32) = 3) from by decide, show ¬ ((5 : Int32) = 4) from by decide, show ¬ ((5 : Int32) = 6) from by decide, show ¬ ((6 : Int32) = 0) from by decide, show ¬ ((6 : Int32) = 1) from by decide, show ¬ ((6 : Int32) = 2) from by decide, show ¬ ((6 : Int32) = 3) from by decide, show ¬ ((6 : Int32) = 4) from by decide, show ¬ ((6 : Int32) = 5) from by decide, show ((3 : Int32) < 4) from by decide, kof_pk2 r.o, kof_pf2 r.o, q.1.2.2.1]
    exact k.up cw ok fx ⟨_, mr, mt, ms, r.sv, q.w2, (mx.ev fx.2.2).cg (fun t ht i hi => by rw [pk_un (by omega)])⟩ (by omega) (by omega) (by omega) (by omega) (by omega)
  | n + 5, h => omega
end KK
