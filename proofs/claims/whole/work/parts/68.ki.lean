/-! the component: cuts, pairs, one more -/
theorem upd_id {f : Nat → Int32} {j : Nat} : upd f j (f j) = f := by
  funext i
  by_cases c : i = j
  · subst c; rw [pk_us]
  · rw [pk_un c]
section KI
variable {X : MXX} {d : Nat} {h : MXH} {Q : MXP} {b : Nat} {m : Nat → Int32} {G : MXGf} {ns nb : Nat}
/-- something else on a slate -/
theorem MK.u6 {mi : Nat → Int32} {mr : Nat → Nat → Int32} {mt ms : Nat → Option Nat} {s : Nat} {x : Int32} (hb : b ≤ 84) (r : KM h b mi mr mt ms) (q : MR m mi mr ns nb) (mx : MX h m G mt ms ns) (hns : ns ≤ 6) (hs : s < ns) : MK (h.set (b + 6) (.inl (0, 6, .inl (upd (mr 6) s x)))) b (upd m (20 + 8 * s + 6) x) G ns nb ∧ FX b (b + 12) h (h.set (b + 6) (.inl (0, 6, .inl (upd (mr 6) s x)))) := by
  have fx : FX b (b + 12) h (h.set (b + 6) (.inl (0, 6, .inl (upd (mr 6) s x)))) := FX.set (by omega) (by omega) (by omega)
  exact ⟨⟨mi, _, mt, ms, r.s6, q.u6 hns hs, (mx.ev fx.2.2).cg (fun t ht j hj => by rw [pk_un (by omega)])⟩, fx⟩
theorem k_cut {s : Nat} {c : Int32} (hb : b ≤ 84) (hns : ns ≤ 6) (hs : s < ns) (di : DI m) (mk : MK h b m G ns nb) (k' : ∀ h', MK h' b (upd m (20 + 8 * s + 6) (cut_ (m (20 + 8 * s + 6)) c)) G ns nb → FX b (b + 12) h h' → Q none h') : ev_ X (d + 1) 19 [.ref b, .int (nI s), .int c] h Q := by
  have mk0 := mk
  obtain ⟨mi, mr, mt, ms, r, q, mx⟩ := mk
  have q6 := (q.2.2.1 s hs).2.2
  have i6 : mx_in (nI s) 6 = true := mx_inN (by omega) (by decide)
  by_cases c1 : m (20 + 8 * s + 6) < 0
  · have e1 : m (20 + 8 * s + 6) = -1 := ((di.1 s (by omega)).2.2.2).resolve_right (fun z => Int32.not_lt.mpr z c1)
    simp only [i19_0, i19_1, i19_4, i19_5, i19_6, i19_9, i19_10, i19_13, i19_14, i19_15, i19_18, i19_19, i19_20, i19_21, i19_22, i19_23, i19_26, i19_27, i19_e, kof_gk r.o, kof_gv r.o, ar_ik r.g6, ar_ia r.g6, i6, nI_clamp (show s < 2 ^ 31 by omega), q6, c1, if_true, true_and, and_true, eq_self, true_or, or_true, bi_01, mx_nl_i, mx_nl_r, mx_nl_n, mx_nl_f, mx_nl_d]
    have k2 := k' h
    unfold cut_ at k2
    rw [if_neg (Int32.not_le.mpr c1), ← e1, upd_id] at k2
    exact k2 mk0 (FX.rf h)
  · have e : (if m (20 + 8 * s + 6) - c < 0 then 0 else m (20 + 8 * s + 6) - c) = cut_ (m (20 + 8 * s + 6)) c := by
      unfold cut_
      rw [if_pos (Int32.not_lt.mp c1)]
      by_cases c2 : m (20 + 8 * s + 6) - c < 0
      · rw [if_pos c2, if_neg (Int32.not_le.mpr c2)]
      · rw [if_neg c2, if_pos (Int32.not_lt.mp c2)]
    simp only [i19_0, i19_1, i19_4, i19_5, i19_6, i19_9, i19_10, i19_13, i19_14, i19_15, i19_18, i19_19, i19_20, i19_21, i19_22, i19_23, i19_26, i19_27, i19_e, kof_gk r.o, kof_gv r.o, ar_ik r.g6, ar_ia r.g6, ar_is r.g6, i6, nI_clamp (show s < 2 ^ 31 by omega), q6, c1, if_false, e, true_and, and_true, eq_self, true_or, or_true, bi_01, mx_nl_i, mx_nl_r, mx_nl_n, mx_nl_f, mx_nl_d]
    have := MK.u6 (x := cut_ (m (20 + 8 * s + 6)) c) hb r q mx hns hs
    exact k' _ this.1 this.2
set_option maxHeartbeats 1000000 in
theorem k_lost_1 {m0 : Nat → Int32} {c : Nat} {f l0 p0 : Int32} (hb : b ≤ 84) (hns : ns ≤ 6)
    (fin : ∀ (h' : MXH) (w5 w6 : Value), MK h' b (l1_ f m0 l0 p0 ns).1 G ns nb → FX b (b + 12) h h' → ex_ X (d + 1) 27 94 [.ref b, .int (l1_ f m0 l0 p0 ns).2.2, .int (nI c), .int (l1_ f m0 l0 p0 ns).2.1, .int f, w5, w6] [] h' Q) :
    ∀ (n k : Nat) (h1 : MXH) (w6 : Value), k + n = ns → MK h1 b (l1_ f m0 l0 p0 k).1 G ns nb → FX b (b + 12) h h1 → ex_ X (d + 1) 27 29 [.ref b, .int (l1_ f m0 l0 p0 k).2.2, .int (nI c), .int (l1_ f m0 l0 p0 k).2.1, .int f, .int (nI k), w6] [] h1 Q := by
  intro n
  induction n with
  | zero =>
    intro k h1 w6 hk mk fx
    have e : k = ns := by omega
    subst e
    have mk0 := mk
    obtain ⟨mi, mr, mt, ms, r, q, mx⟩ := mk
    rw [i27_29]
    simp only [i27_0, i27_1, i27_2, i27_3, i27_4, i27_5, i27_6, i27_9, i27_12, i27_13, i27_16, i27_17, i27_18, i27_19, i27_20, i27_21, i27_24, i27_26, i27_27, i27_31, i27_32, i27_35, i27_38, i27_39, i27_42, i27_44, i27_45, i27_48, i27_50, i27_53, i27_54, i27_55, i27_58, i27_60, i27_61, i27_64, i27_66, i27_67, i27_70, i27_72, i27_73, i27_74, i27_76, i27_77, i27_78, i27_79, i27_81, i27_82, i27_83, i27_84, i27_86, i27_87, i27_88, i27_91, i27_97, i27_100, i27_101, i27_e, kof_gk r.o, kof_gv r.o, q.1.2.2.2.2.1, Int32.le_refl, if_true, true_and, and_true, eq_self, true_or, or_true, bi_01, mx_nl_i, mx_nl_r, mx_nl_n, mx_nl_f, mx_nl_d]
    exact fin h1 _ _ mk0 fx
  | succ n ih =>
    intro k h1 w6 hk mk fx
    have hlt : k < ns := by omega
    have hc : ¬ ((nI ns : Int32) ≤ nI k) := by rw [nI_leI (by omega) (by omega)]; omega
    have ih := ih (k + 1)
    simp only [l1_] at ih
    generalize hm1 : l1_ f m0 l0 p0 k = t at mk ih
    obtain ⟨m1, l, p⟩ := t
    simp only at mk ih ⊢
    have mk0 := mk
    obtain ⟨mi, mr, mt, ms, r, q, mx⟩ := mk
    obtain ⟨a, ea, ha, kd, hkd, ek, ho⟩ := mx.1 k hlt
    obtain ⟨gk, gv⟩ := scl_gk hkd ho
    obtain ⟨q4, q5, q6⟩ := q.2.2.1 k hlt
    have i6 : mx_in (nI k) 6 = true := mx_inN (by omega) (by decide)
    rw [i27_29]
    by_cases c1 : m1 (20 + 8 * k + 2) ≤ f
    · have c2 : ¬ f < m1 (20 + 8 * k + 2) := Int32.not_lt.mpr c1
      simp only [bo_, c1, if_true] at ih
      simp only [i27_0, i27_1, i27_2, i27_3, i27_4, i27_5, i27_6, i27_9, i27_12, i27_13, i27_16, i27_17, i27_18, i27_19, i27_20, i27_21, i27_24, i27_26, i27_27, i27_31, i27_32, i27_35, i27_38, i27_39, i27_42, i27_44, i27_45, i27_48, i27_50, i27_53, i27_54, i27_55, i27_58, i27_60, i27_61, i27_64, i27_66, i27_67, i27_70, i27_72, i27_73, i27_74, i27_76, i27_77, i27_78, i27_79, i27_81, i27_82, i27_83, i27_84, i27_86, i27_87, i27_88, i27_91, i27_97, i27_100, i27_101, i27_e, kof_gk r.o, kof_gv r.o, q.1.2.2.2.2.1, hc, if_false, rr_rk r.gS, rr_ra r.gS, i6, nI_clamp (show k < 2 ^ 31 by omega), ea, mxv_s, show (mx_cmp 3).isSome = true from rfl, Bool.and_self, gk, gv, c2, ar_ik r.g4, ar_ia r.g4, ar_is r.g4, q4, min_le, nI_1, true_and, and_true, eq_self, true_or, or_true, bi_01, mx_nl_i, mx_nl_r, mx_nl_n, mx_nl_f, mx_nl_d]
      have fx2 : FX b (b + 12) h1 (h1.set (b + 4) (.inl (0, 6, .inl (upd (mr 4) k (m1 (20 + 8 * k + 4) - if m1 (20 + 8 * k + 4) ≤ l then m1 (20 + 8 * k + 4) else l))))) := FX.set (by omega) (by omega) (by omega)
      exact ih _ _ (by omega) ⟨mi, _, mt, ms, r.s4, q.u4 hns hlt, (mx.ev fx2.2.2).cg (fun t ht j hj => by rw [pk_un (by omega)])⟩ (fx.tr fx2)
    · have c2 : f < m1 (20 + 8 * k + 2) := Int32.not_le.mp c1
      simp only [bo_, c1, if_false, Int32.sub_zero, Int32.add_zero, upd_id] at ih
      simp only [i27_0, i27_1, i27_2, i27_3, i27_4, i27_5, i27_6, i27_9, i27_12, i27_13, i27_16, i27_17, i27_18, i27_19, i27_20, i27_21, i27_24, i27_26, i27_27, i27_31, i27_32, i27_35, i27_38, i27_39, i27_42, i27_44, i27_45, i27_48, i27_50, i27_53, i27_54, i27_55, i27_58, i27_60, i27_61, i27_64, i27_66, i27_67, i27_70, i27_72, i27_73, i27_74, i27_76, i27_77, i27_78, i27_79, i27_81, i27_82, i27_83, i27_84, i27_86, i27_87, i27_88, i27_91, i27_97, i27_100, i27_101, i27_e, kof_gk r.o, kof_gv r.o, q.1.2.2.2.2.1, hc, if_false, rr_rk r.gS, rr_ra r.gS, i6, nI_clamp (show k < 2 ^ 31 by omega), ea, mxv_s, show (mx_cmp 3).isSome = true from rfl, Bool.and_self, gk, gv, c2, if_true, nI_1, true_and, and_true, eq_self, true_or, or_true, bi_01, mx_nl_i, mx_nl_r, mx_nl_n, mx_nl_f, mx_nl_d]
      exact ih h1 _ (by omega) mk0 fx
set_option maxHeartbeats 1000000 in
theorem k_lost_2 {m0 : Nat → Int32} (hb : b ≤ 84) (md : MD m0 ns nb) (k' : ∀ h', MS h' b → FX b (b + 12) h h' → Q (some (.int (l2_ ns m0 nb).2)) h') :
    ∀ (n k : Nat) (h1 : MXH) (w3 w4 w5 w6 : Value), k + n = nb → MK h1 b (l2_ ns m0 k).1 G ns nb → FX b (b + 12) h h1 → ex_ X (d + 1) 27 4 [.ref b, .int (l2_ ns m0 k).2, .int (nI k), w3, w4, w5, w6] [] h1 Q := by
  obtain ⟨hns, hnb, e1, e2, e3⟩ := md
  intro n
  induction n with
  | zero =>
    intro k h1 w3 w4 w5 w6 hk mk fx
    have e : k = nb := by omega
    subst e
    have mk0 := mk
    obtain ⟨mi, mr, mt, ms, r, q, mx⟩ := mk
    rw [i27_4]
    simp only [i27_0, i27_1, i27_2, i27_3, i27_5, i27_6, i27_9, i27_12, i27_13, i27_16, i27_17, i27_18, i27_19, i27_20, i27_21, i27_24, i27_26, i27_27, i27_29, i27_31, i27_32, i27_35, i27_38, i27_39, i27_42, i27_44, i27_45, i27_48, i27_50, i27_53, i27_54, i27_55, i27_58, i27_60, i27_61, i27_64, i27_66, i27_67, i27_70, i27_72, i27_73, i27_74, i27_76, i27_77, i27_78, i27_79, i27_81, i27_82, i27_83, i27_84, i27_86, i27_87, i27_88, i27_91, i27_94, i27_97, i27_100, i27_101, i27_e, kof_gk r.o, kof_gv r.o, q.1.2.2.2.2.2, Int32.le_refl, if_true, true_and, and_true, eq_self, true_or, or_true, bi_01, mx_nl_i, mx_nl_r, mx_nl_n, mx_nl_f, mx_nl_d]
    exact k' h1 mk0.ss fx
  | succ n ih =>
    intro k h1 w3 w4 w5 w6 hk mk fx
    have hlt : k < nb := by omega
    have hc : ¬ ((nI nb : Int32) ≤ nI k) := by rw [nI_leI (by omega) (by omega)]; omega
    have ih := ih (k + 1)
    simp only [l2_] at ih
    have l3 : (l2_ ns m0 k).1 3 = m0 3 := l2_at hns (by omega) k
    generalize hm1 : l2_ ns m0 k = t at mk ih l3
    obtain ⟨m1, p⟩ := t
    simp only at mk ih l3 ⊢
    have mk0 := mk
    obtain ⟨mi, mr, mt, ms, r, q, mx⟩ := mk
    have q11 := (q.2.2.2 k hlt).2.2.2
    rw [i27_4]
    simp only [i27_0, i27_1, i27_2, i27_3, i27_5, i27_6, i27_9, i27_12, i27_13, i27_16, i27_17, i27_18, i27_19, i27_20, i27_21, i27_24, i27_26, i27_27, i27_31, i27_32, i27_35, i27_38, i27_39, i27_42, i27_44, i27_45, i27_48, i27_50, i27_53, i27_54, i27_55, i27_58, i27_60, i27_61, i27_64, i27_66, i27_67, i27_70, i27_72, i27_73, i27_74, i27_76, i27_77, i27_78, i27_79, i27_81, i27_82, i27_83, i27_84, i27_86, i27_87, i27_88, i27_91, i27_94, i27_97, i27_100, i27_101, i27_e, kof_gk r.o, kof_gv r.o, q.1.2.2.2.2.2, hc, if_false, ar_ik r.g11, ar_ia r.g11, mx_inN (show k < 8 by omega) (show 8 < 2 ^ 31 by decide), nI_clamp (show k < 2 ^ 31 by omega), q11, ob_co r.o, k_feels r q hlt hnb (by rw [l3]; exact e3), Option.toList_some, Option.toList_none, List.nil_append, List.cons_append, true_and, and_true, eq_self, true_or, or_true, bi_01, mx_nl_i, mx_nl_r, mx_nl_n, mx_nl_f, mx_nl_d]
    refine k_lost_1 (h := h) (m0 := m1) (l0 := m1 (70 + 4 * k + 3)) (p0 := p) (G := G) hb hns ?_ ns 0 h1 _ (by omega) mk0 fx
    intro h2 w5 w6 mk2 fx2
    simp only [i27_0, i27_1, i27_2, i27_3, i27_5, i27_6, i27_9, i27_12, i27_13, i27_16, i27_17, i27_18, i27_19, i27_20, i27_21, i27_24, i27_26, i27_27, i27_31, i27_32, i27_35, i27_38, i27_39, i27_42, i27_44, i27_45, i27_48, i27_50, i27_53, i27_54, i27_55, i27_58, i27_60, i27_61, i27_64, i27_66, i27_67, i27_70, i27_72, i27_73, i27_74, i27_76, i27_77, i27_78, i27_79, i27_81, i27_82, i27_83, i27_84, i27_86, i27_87, i27_88, i27_91, i27_94, i27_97, i27_100, i27_101, i27_e, nI_1, true_and, and_true, eq_self, true_or, or_true, bi_01, mx_nl_i, mx_nl_r, mx_nl_n, mx_nl_f, mx_nl_d]
    exact ih h2 _ _ _ _ (by omega) mk2 fx2
theorem k_lost (hb : b ≤ 84) (md : MD m ns nb) (mk : MK h b m G ns nb) (k' : ∀ h', MS h' b → FX b (b + 12) h h' → Q (some (.int (l2_ ns m nb).2)) h') : ev_ X (d + 1) 27 [.ref b] h Q := by
  simp only [i27_0, i27_1, i27_2, i27_3, i27_5, i27_6, i27_9, i27_12, i27_13, i27_16, i27_17, i27_18, i27_19, i27_20, i27_21, i27_24, i27_26, i27_27, i27_29, i27_31, i27_32, i27_35, i27_38, i27_39, i27_42, i27_44, i27_45, i27_48, i27_50, i27_53, i27_54, i27_55, i27_58, i27_60, i27_61, i27_64, i27_66, i27_67, i27_70, i27_72, i27_73, i27_74, i27_76, i27_77, i27_78, i27_79, i27_81, i27_82, i27_83, i27_84, i27_86, i27_87, i27_88, i27_91, i27_94, i27_97, i27_100, i27_101, i27_e, true_and, and_true, eq_self, true_or, or_true, bi_01, mx_nl_i, mx_nl_r, mx_nl_n, mx_nl_f, mx_nl_d]
  exact k_lost_2 (h := h) hb md k' nb 0 h _ _ _ _ (by omega) mk (FX.rf h)
set_option maxHeartbeats 1000000 in
/-- one more seller -/
theorem k_addS {a : Nat} {x y z : Int32} (hb : b ≤ 84) (hns : ns < 6) (e1 : m 1 = nI ns) (mk : MK h b m G ns nb) (sl : SEL h a ns (sel_ m ns x y z)) (k' : ∀ h', MK h' b (sel_ m ns x y z) G (ns + 1) nb → FX b (b + 12) h h' → Q (some (.int (nI ns))) h') : ev_ X d 12 [.ref b, .ref a] h Q := by
  obtain ⟨mi, mr, mt, ms, r, q, mx⟩ := mk
  have sl0 := sl
  obtain ⟨ha, kd, hkd, ek, ho⟩ := sl
  have i6 : mx_in (nI ns) 6 = true := mx_inN hns (by decide)
  have r2 := r.sS (g := va_up ms ns (some a))
  have r3 := r2.s4 (f := upd (mr 4) ns 0)
  have g5 := r3.g5
  rw [up2_n (by decide)] at g5
  have r4 := r3.s5 (f := upd (mr 5) ns 0)
  have g6 := r4.g6
  rw [up2_n (by decide), up2_n (by decide)] at g6
  have r5 := r4.s6 (f := upd (mr 6) ns (-1))
  have r6 := r5.sv (mi' := upd mi 7 (nI (ns + 1)))
  have f2 : FX b (b + 12) h (h.set (b + 3) (.inl (3, 6, mx_rfs (va_up ms ns (some a))))) := FX.set (by omega) (by omega) (by omega)
  have f3 := f2.tr (FX.set (a := b + 4) (x := .inl (0, 6, .inl (upd (mr 4) ns 0))) (by omega) (by omega) (by omega))
  have f4 := f3.tr (FX.set (a := b + 5) (x := .inl (0, 6, .inl (upd (mr 5) ns 0))) (by omega) (by omega) (by omega))
  have f5 := f4.tr (FX.set (a := b + 6) (x := .inl (0, 6, .inl (upd (mr 6) ns (-1)))) (by omega) (by omega) (by omega))
  have f6 := f5.tr (FX.set (a := b) (x := .inr (3, kof b (upd mi 7 (nI (ns + 1))))) (by omega) (by omega) (by omega))
  simp only [i12_0, i12_1, i12_4, i12_5, i12_6, i12_9, i12_10, i12_11, i12_12, i12_13, i12_16, i12_17, i12_18, i12_19, i12_20, i12_23, i12_24, i12_25, i12_26, i12_27, i12_30, i12_31, i12_32, i12_33, i12_34, i12_35, i12_38, i12_39, i12_40, i12_43, i12_44, i12_e, kof_gk r.o, kof_gv r.o, q.1.2.2.2.2.1, rr_rx r.gS ho (show mx_cmp 3 = some 6 from rfl), scl_sub hkd, rr_rs r.gS, i6, nI_clamp (show ns < 2 ^ 31 by omega), Bool.and_self, kof_gk r2.o, kof_gv r2.o, ar_ik r2.g4, ar_is r2.g4, kof_gk r3.o, kof_gv r3.o, ar_ik g5, ar_is g5, kof_gk r4.o, kof_gv r4.o, ar_ik g6, ar_is g6, kof_gk r5.o, kof_gv r5.o, nI_1, kof_pk7 r5.o, kof_pf7 r5.o, true_and, and_true, eq_self, true_or, or_true, bi_01, mx_nl_i, mx_nl_r, mx_nl_n, mx_nl_f, mx_nl_d]
  obtain ⟨⟨a1, a2, a3, a4, a5, a6⟩, qb, qc, qd⟩ := q
  have so : ∀ j, ¬ (20 + 8 * ns ≤ j ∧ j < 20 + 8 * ns + 7) → j ≠ 1 → sel_ m ns x y z j = m j := by
    intro j h1 h2
    unfold sel_
    rw [pk_un h2, pk_un (by omega), pk_un (by omega), pk_un (by omega), pk_un (by omega), pk_un (by omega), pk_un (by omega), pk_un (by omega)]
  have s4 : sel_ m ns x y z (20 + 8 * ns + 4) = 0 := by unfold sel_; rw [pk_un (by omega), pk_un (by omega), pk_un (by omega), pk_us]
  have s5 : sel_ m ns x y z (20 + 8 * ns + 5) = 0 := by unfold sel_; rw [pk_un (by omega), pk_un (by omega), pk_us]
  have s6 : sel_ m ns x y z (20 + 8 * ns + 6) = -1 := by unfold sel_; rw [pk_un (by omega), pk_us]
  refine k' _ ⟨_, _, mt, _, r6, ⟨⟨?_, ?_, ?_, ?_, ?_, ?_⟩, ?_, ?_, ?_⟩, ?_⟩ f6
  · rw [pk_un (by decide), so 0 (by omega) (by decide)]; exact a1
  · rw [pk_un (by decide), so 3 (by omega) (by decide)]; exact a2
  · rw [pk_un (by decide), so 7 (by omega) (by decide)]; exact a3
  · rw [pk_un (by decide), so 11 (by omega) (by decide)]; exact a4
  · rw [pk_us]
  · rw [pk_un (by decide)]; exact a6
  · intro j hj
    rw [up2_n (by decide), up2_n (by decide), up2_n (by decide), so _ (by omega) (by omega)]; exact qb j hj
  · intro s hs
    rw [up2_s, up2_n (show 5 ≠ 6 by decide), up2_s, up2_n (show 4 ≠ 6 by decide), up2_n (show 4 ≠ 5 by decide), up2_s]
    by_cases c : s = ns
    · subst c; rw [pk_us, pk_us, pk_us, s4, s5, s6]; exact ⟨rfl, rfl, rfl⟩
    · rw [pk_un c, pk_un c, pk_un c, so _ (by omega) (by omega), so _ (by omega) (by omega), so _ (by omega) (by omega)]; exact qc s (by omega)
  · intro s hs
    rw [up2_n (by decide), up2_n (by decide), up2_n (by decide), up2_n (show 9 ≠ 6 by decide), up2_n (show 9 ≠ 5 by decide), up2_n (show 9 ≠ 4 by decide), up2_n (show 10 ≠ 6 by decide), up2_n (show 10 ≠ 5 by decide), up2_n (show 10 ≠ 4 by decide), up2_n (show 11 ≠ 6 by decide), up2_n (show 11 ≠ 5 by decide), up2_n (show 11 ≠ 4 by decide), so _ (by omega) (by omega), so _ (by omega) (by omega), so _ (by omega) (by omega), so _ (by omega) (by omega)]
    exact qd s hs
  · have mx6 := mx.ev f6.2.2
    refine ⟨fun s hs => ?_, mx6.2⟩
    by_cases c : s = ns
    · subst c; exact ⟨a, va_us, sl0.ev f6.2.2⟩
    · obtain ⟨a0, h1, h2, k0, h3, h4, h5⟩ := mx6.1 s (by omega)
      refine ⟨a0, by rw [va_un c]; exact h1, h2, k0, h3, by rw [so _ (by omega) (by omega)]; exact h4, ?_⟩
      rw [so _ (by omega) (by omega), so _ (by omega) (by omega), so _ (by omega) (by omega)]
      exact h5
set_option maxHeartbeats 1000000 in
/-- one more sort -/
theorem k_addB {x y z : Int32} (hb : b ≤ 84) (hns : ns ≤ 6) (hnb : nb < 8) (mk : MK h b m G ns nb) (k' : ∀ h', MK h' b (com_ m nb x y z) G ns (nb + 1) → FX b (b + 12) h h' → Q (some (.int (nI nb))) h') : ev_ X d 13 [.ref b, .int x, .int y, .int z] h Q := by
  obtain ⟨mi, mr, mt, ms, r, q, mx⟩ := mk
  have i6 : mx_in (nI nb) 8 = true := mx_inN hnb (by decide)
  have r3 := r.s8 (f := upd (mr 8) nb x)
  have g5 := r3.g9
  rw [up2_n (by decide)] at g5
  have r4 := r3.s9 (f := upd (mr 9) nb y)
  have g6 := r4.g10
  rw [up2_n (by decide), up2_n (by decide)] at g6
  have r5 := r4.s10 (f := upd (mr 10) nb z)
  have g7 := r5.g11
  rw [up2_n (by decide), up2_n (by decide), up2_n (by decide)] at g7
  have r6 := r5.s11 (f := upd (mr 11) nb 0)
  have r7 := r6.sv (mi' := upd mi 12 (nI (nb + 1)))
  have f3 : FX b (b + 12) h (h.set (b + 8) (.inl (0, 8, .inl (upd (mr 8) nb x)))) := FX.set (by omega) (by omega) (by omega)
  have f4 := f3.tr (FX.set (a := b + 9) (x := .inl (0, 8, .inl (upd (mr 9) nb y))) (by omega) (by omega) (by omega))
  have f5 := f4.tr (FX.set (a := b + 10) (x := .inl (0, 8, .inl (upd (mr 10) nb z))) (by omega) (by omega) (by omega))
  have f6 := f5.tr (FX.set (a := b + 11) (x := .inl (0, 8, .inl (upd (mr 11) nb 0))) (by omega) (by omega) (by omega))
  have f7 := f6.tr (FX.set (a := b) (x := .inr (3, kof b (upd mi 12 (nI (nb + 1))))) (by omega) (by omega) (by omega))
  simp only [i13_0, i13_1, i13_4, i13_6, i13_7, i13_10, i13_12, i13_13, i13_14, i13_15, i13_18, i13_20, i13_21, i13_22, i13_23, i13_26, i13_28, i13_29, i13_30, i13_31, i13_34, i13_36, i13_37, i13_38, i13_39, i13_40, i13_43, i13_44, i13_45, i13_48, i13_50, i13_e, kof_gk r.o, kof_gv r.o, q.1.2.2.2.2.2, ar_ik r.g8, ar_is r.g8, i6, nI_clamp (show nb < 2 ^ 31 by omega), kof_gk r3.o, kof_gv r3.o, ar_ik g5, ar_is g5, kof_gk r4.o, kof_gv r4.o, ar_ik g6, ar_is g6, kof_gk r5.o, kof_gv r5.o, ar_ik g7, ar_is g7, kof_gk r6.o, kof_gv r6.o, nI_1, kof_pk12 r6.o, kof_pf12 r6.o, true_and, and_true, eq_self, true_or, or_true, bi_01, mx_nl_i, mx_nl_r, mx_nl_n, mx_nl_f, mx_nl_d]
  obtain ⟨⟨a1, a2, a3, a4, a5, a6⟩, qb, qc, qd⟩ := q
  have so : ∀ j, ¬ (70 + 4 * nb ≤ j ∧ j < 70 + 4 * nb + 4) → j ≠ 2 → com_ m nb x y z j = m j := by
    intro j h1 h2
    unfold com_
    rw [pk_un h2, pk_un (by omega), pk_un (by omega), pk_un (by omega), pk_un (by omega)]
  have s0 : com_ m nb x y z (70 + 4 * nb + 0) = x := by unfold com_; rw [pk_un (by omega), pk_un (by omega), pk_un (by omega), pk_un (by omega), pk_us]
  have s1 : com_ m nb x y z (70 + 4 * nb + 1) = y := by unfold com_; rw [pk_un (by omega), pk_un (by omega), pk_un (by omega), pk_us]
  have s2 : com_ m nb x y z (70 + 4 * nb + 2) = z := by unfold com_; rw [pk_un (by omega), pk_un (by omega), pk_us]
  have s3 : com_ m nb x y z (70 + 4 * nb + 3) = 0 := by unfold com_; rw [pk_un (by omega), pk_us]
  refine k' _ ⟨_, _, mt, ms, r7, ⟨⟨?_, ?_, ?_, ?_, ?_, ?_⟩, ?_, ?_, ?_⟩, ?_⟩ f7
  · rw [pk_un (by decide), so 0 (by omega) (by decide)]; exact a1
  · rw [pk_un (by decide), so 3 (by omega) (by decide)]; exact a2
  · rw [pk_un (by decide), so 7 (by omega) (by decide)]; exact a3
  · rw [pk_un (by decide), so 11 (by omega) (by decide)]; exact a4
  · rw [pk_un (by decide)]; exact a5
  · rw [pk_us]
  · intro j hj
    rw [up2_n (by decide), up2_n (by decide), up2_n (by decide), up2_n (by decide), so _ (by omega) (by omega)]; exact qb j hj
  · intro s hs
    rw [up2_n (show 4 ≠ 11 by decide), up2_n (show 4 ≠ 10 by decide), up2_n (show 4 ≠ 9 by decide), up2_n (show 4 ≠ 8 by decide), up2_n (show 5 ≠ 11 by decide), up2_n (show 5 ≠ 10 by decide), up2_n (show 5 ≠ 9 by decide), up2_n (show 5 ≠ 8 by decide), up2_n (show 6 ≠ 11 by decide), up2_n (show 6 ≠ 10 by decide), up2_n (show 6 ≠ 9 by decide), up2_n (show 6 ≠ 8 by decide), so _ (by omega) (by omega), so _ (by omega) (by omega), so _ (by omega) (by omega)]
    exact qc s hs
  · intro s hs
    rw [up2_s, up2_n (show 10 ≠ 11 by decide), up2_s, up2_n (show 9 ≠ 11 by decide), up2_n (show 9 ≠ 10 by decide), up2_s, up2_n (show 8 ≠ 11 by decide), up2_n (show 8 ≠ 10 by decide), up2_n (show 8 ≠ 9 by decide), up2_s]
    by_cases c : s = nb
    · subst c; rw [pk_us, pk_us, pk_us, pk_us, s0, s1, s2, s3]; exact ⟨rfl, rfl, rfl, rfl⟩
    · rw [pk_un c, pk_un c, pk_un c, pk_un c, so _ (by omega) (by omega), so _ (by omega) (by omega), so _ (by omega) (by omega), so _ (by omega) (by omega)]; exact qd s (by omega)
  · exact (mx.ev f7.2.2).cg (fun t ht j hj => so _ (by omega) (by omega))
end KI
