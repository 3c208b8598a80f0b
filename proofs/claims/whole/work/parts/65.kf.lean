/-! the component: days -/
section MRU
variable {h : MXH} {m m' mi : Nat → Int32} {mr : Nat → Nat → Int32} {mt ms : Nat → Option Nat} {G : MXGf} {ns nb k : Nat} {x : Int32}
theorem MR.u4 (q : MR m mi mr ns nb) (hns : ns ≤ 6) (hk : k < ns) : MR (upd m (20 + 8 * k + 4) x) mi (up2 mr 4 (upd (mr 4) k x)) ns nb := by
  obtain ⟨⟨a1, a2, a3, a4, a5, a6⟩, b, c, e⟩ := q
  refine ⟨⟨by rw [pk_un (by omega)]; exact a1, by rw [pk_un (by omega)]; exact a2, by rw [pk_un (by omega)]; exact a3, by rw [pk_un (by omega)]; exact a4, a5, a6⟩, fun j hj => by rw [up2_n (by decide), pk_un (by omega)]; exact b j hj, fun s hs => ?_, fun s hs => ?_⟩
  · obtain ⟨c1, c2, c3⟩ := c s hs
    rw [up2_s, up2_n (by decide), up2_n (by decide), pk_un (j := 20 + 8 * s + 5) (by omega), pk_un (j := 20 + 8 * s + 6) (by omega)]
    refine ⟨?_, c2, c3⟩
    by_cases e1 : s = k
    · subst e1; rw [pk_us, pk_us]
    · rw [pk_un e1, pk_un (by omega)]; exact c1
  · rw [up2_n (by decide), up2_n (by decide), up2_n (by decide), up2_n (by decide), pk_un (by omega), pk_un (by omega), pk_un (by omega), pk_un (by omega)]; exact e s hs
theorem MR.u5 (q : MR m mi mr ns nb) (hns : ns ≤ 6) (hk : k < ns) : MR (upd m (20 + 8 * k + 5) x) mi (up2 mr 5 (upd (mr 5) k x)) ns nb := by
  obtain ⟨⟨a1, a2, a3, a4, a5, a6⟩, b, c, e⟩ := q
  refine ⟨⟨by rw [pk_un (by omega)]; exact a1, by rw [pk_un (by omega)]; exact a2, by rw [pk_un (by omega)]; exact a3, by rw [pk_un (by omega)]; exact a4, a5, a6⟩, fun j hj => by rw [up2_n (by decide), pk_un (by omega)]; exact b j hj, fun s hs => ?_, fun s hs => ?_⟩
  · obtain ⟨c1, c2, c3⟩ := c s hs
    rw [up2_s, up2_n (by decide), up2_n (by decide), pk_un (j := 20 + 8 * s + 4) (by omega), pk_un (j := 20 + 8 * s + 6) (by omega)]
    refine ⟨c1, ?_, c3⟩
    by_cases e1 : s = k
    · subst e1; rw [pk_us, pk_us]
    · rw [pk_un e1, pk_un (by omega)]; exact c2
  · rw [up2_n (by decide), up2_n (by decide), up2_n (by decide), up2_n (by decide), pk_un (by omega), pk_un (by omega), pk_un (by omega), pk_un (by omega)]; exact e s hs
theorem MR.u6 (q : MR m mi mr ns nb) (hns : ns ≤ 6) (hk : k < ns) : MR (upd m (20 + 8 * k + 6) x) mi (up2 mr 6 (upd (mr 6) k x)) ns nb := by
  obtain ⟨⟨a1, a2, a3, a4, a5, a6⟩, b, c, e⟩ := q
  refine ⟨⟨by rw [pk_un (by omega)]; exact a1, by rw [pk_un (by omega)]; exact a2, by rw [pk_un (by omega)]; exact a3, by rw [pk_un (by omega)]; exact a4, a5, a6⟩, fun j hj => by rw [up2_n (by decide), pk_un (by omega)]; exact b j hj, fun s hs => ?_, fun s hs => ?_⟩
  · obtain ⟨c1, c2, c3⟩ := c s hs
    rw [up2_s, up2_n (by decide), up2_n (by decide), pk_un (j := 20 + 8 * s + 4) (by omega), pk_un (j := 20 + 8 * s + 5) (by omega)]
    refine ⟨c1, c2, ?_⟩
    by_cases e1 : s = k
    · subst e1; rw [pk_us, pk_us]
    · rw [pk_un e1, pk_un (by omega)]; exact c3
  · rw [up2_n (by decide), up2_n (by decide), up2_n (by decide), up2_n (by decide), pk_un (by omega), pk_un (by omega), pk_un (by omega), pk_un (by omega)]; exact e s hs
theorem MR.u11 (q : MR m mi mr ns nb) (hns : ns ≤ 6) (hnb : nb ≤ 8) (hk : k < nb) : MR (upd m (70 + 4 * k + 3) x) mi (up2 mr 11 (upd (mr 11) k x)) ns nb := by
  obtain ⟨⟨a1, a2, a3, a4, a5, a6⟩, b, c, e⟩ := q
  refine ⟨⟨by rw [pk_un (by omega)]; exact a1, by rw [pk_un (by omega)]; exact a2, by rw [pk_un (by omega)]; exact a3, by rw [pk_un (by omega)]; exact a4, a5, a6⟩, fun j hj => by rw [up2_n (by decide), pk_un (by omega)]; exact b j hj, fun s hs => ?_, fun s hs => ?_⟩
  · rw [up2_n (by decide), up2_n (by decide), up2_n (by decide), pk_un (by omega), pk_un (by omega), pk_un (by omega)]; exact c s hs
  · obtain ⟨c1, c2, c3, c4⟩ := e s hs
    rw [up2_s, up2_n (by decide), up2_n (by decide), up2_n (by decide), pk_un (j := 70 + 4 * s + 0) (by omega), pk_un (j := 70 + 4 * s + 1) (by omega), pk_un (j := 70 + 4 * s + 2) (by omega)]
    refine ⟨c1, c2, c3, ?_⟩
    by_cases e1 : s = k
    · subst e1; rw [pk_us, pk_us]
    · rw [pk_un e1, pk_un (by omega)]; exact c4
theorem MR.u7 {f : Nat → Int32} (q : MR m mi mr ns nb) : MR m mi (up2 mr 7 f) ns nb := q
theorem MR.u0 (q : MR m mi mr ns nb) : MR (upd m 0 x) (upd mi 0 x) mr ns nb := by
  obtain ⟨⟨a1, a2, a3, a4, a5, a6⟩, b, c, e⟩ := q
  refine ⟨⟨by rw [pk_us, pk_us], by rw [pk_un (by decide), pk_un (by decide)]; exact a2, by rw [pk_un (by decide), pk_un (by decide)]; exact a3, by rw [pk_un (by decide), pk_un (by decide)]; exact a4, by rw [pk_un (by decide)]; exact a5, by rw [pk_un (by decide)]; exact a6⟩, fun j hj => by rw [pk_un (by omega)]; exact b j hj, fun s hs => ?_, fun s hs => ?_⟩
  · rw [pk_un (by omega), pk_un (by omega), pk_un (by omega)]; exact c s hs
  · rw [pk_un (by omega), pk_un (by omega), pk_un (by omega), pk_un (by omega)]; exact e s hs
theorem MX.cg (x : MX h m G mt ms ns) (e : ∀ s, s < ns → ∀ j, j < 4 → m' (20 + 8 * s + j) = m (20 + 8 * s + j)) : MX h m' G mt ms ns := by
  refine ⟨fun s hs => ?_, x.2⟩
  obtain ⟨a, h1, h2, k, h3, h4, h5⟩ := x.1 s hs
  refine ⟨a, h1, h2, k, h3, ?_, ?_⟩
  · rw [e s hs 0 (by decide)]; exact h4
  · rw [e s hs 1 (by decide), e s hs 2 (by decide), e s hs 3 (by decide)]; exact h5
end MRU
def MK7 (h : MXH) (b : Nat) (m : Nat → Int32) (G : MXGf) (ns nb : Nat) (f : Nat → Int32) : Prop := ∃ mi mr mt ms, KM h b mi mr mt ms ∧ MR m mi mr ns nb ∧ MX h m G mt ms ns ∧ mr 7 = f
theorem MK7.mk {h : MXH} {b : Nat} {m : Nat → Int32} {G : MXGf} {ns nb : Nat} {f : Nat → Int32} (x : MK7 h b m G ns nb f) : MK h b m G ns nb := by
  obtain ⟨mi, mr, mt, ms, h1, h2, h3, _⟩ := x
  exact ⟨mi, mr, mt, ms, h1, h2, h3⟩
theorem scl_gk {h : MXH} {a k : Nat} {n kk y c w : Int32} (hk : k ≤ 6) (ho : h[a]? = some (.inr (scl k, sof n kk y c w))) : (gk_ h a 0 [(0, 0), (1, 0), (2, 0), (4, 0), (6, 0), (8, 0), (9, 0)] = true ∧ gk_ h a 1 [(0, 0), (1, 0), (2, 0), (4, 0), (6, 0), (8, 0), (9, 0)] = true ∧ gk_ h a 2 [(0, 0), (1, 0), (2, 0), (4, 0), (6, 0), (8, 0), (9, 0)] = true ∧ gk_ h a 3 [(0, 0), (1, 0), (2, 0), (4, 0), (6, 0), (8, 0), (9, 0)] = true ∧ gk_ h a 4 [(0, 0), (1, 0), (2, 0), (4, 0), (6, 0), (8, 0), (9, 0)] = true) ∧ gv_ h a 0 = .int n ∧ gv_ h a 1 = .int kk ∧ gv_ h a 2 = .int y ∧ gv_ h a 3 = .int c ∧ gv_ h a 4 = .int w := by
  refine ⟨?_, ?_⟩
  · unfold gk_
    rw [ho]
    match k, hk with
    | 0, _ => exact ⟨rfl, rfl, rfl, rfl, rfl⟩
    | 1, _ => exact ⟨rfl, rfl, rfl, rfl, rfl⟩
    | 2, _ => exact ⟨rfl, rfl, rfl, rfl, rfl⟩
    | 3, _ => exact ⟨rfl, rfl, rfl, rfl, rfl⟩
    | 4, _ => exact ⟨rfl, rfl, rfl, rfl, rfl⟩
    | 5, _ => exact ⟨rfl, rfl, rfl, rfl, rfl⟩
    | 6, _ => exact ⟨rfl, rfl, rfl, rfl, rfl⟩
    | n + 7, h => omega
  · unfold gv_
    rw [ho]
    exact ⟨rfl, rfl, rfl, rfl, rfl⟩
theorem min99 {x : Int32} {n : Nat} (hn : n ≤ 1000) (e : x = nI n) : (if (99 : Int32) < x then 99 else x) = hd_ x 0 99 := by
  unfold hd_
  rw [e, if_neg (nI_pos (by omega))]
section KF
variable {X : MXX} {d : Nat} {h : MXH} {Q : MXP} {b : Nat} {m : Nat → Int32} {G : MXGf} {ns nb : Nat}
set_option maxHeartbeats 2000000 in
theorem k_askAll_l (hb : b ≤ 84) (hns : ns ≤ 6) (di : DI m) (k' : ∀ h', MK h' b (gsl G m ns) G ns nb → FX b (b + 12) h h' → Q none h') : ∀ (n k : Nat) (h1 : MXH) (w2 : Value), k + n = ns → MK h1 b (gsl G m k) G ns nb → FX b (b + 12) h h1 → ex_ X (d + 4) 21 2 [.ref b, .int (nI k), w2] [] h1 Q := by
  intro n
  induction n with
  | zero =>
    intro k h1 w2 hk mk fx
    have e : k = ns := by omega
    subst e
    have mk0 := mk
    obtain ⟨mi, mr, mt, ms, r, q, mx⟩ := mk
    rw [i21_2]
    simp only [i21_0, i21_1, i21_3, i21_4, i21_7, i21_10, i21_11, i21_14, i21_15, i21_16, i21_17, i21_18, i21_21, i21_22, i21_23, i21_26, i21_27, i21_28, i21_29, i21_32, i21_33, i21_35, i21_38, i21_39, i21_40, i21_43, i21_44, i21_45, i21_48, i21_49, i21_50, i21_51, i21_54, i21_55, i21_58, i21_59, i21_60, i21_63, i21_64, i21_65, i21_68, i21_69, i21_70, i21_71, i21_74, i21_75, i21_78, i21_81, i21_e, kof_gk r.o, kof_gv r.o, q.1.2.2.2.2.1, Int32.le_refl, if_true, true_and, and_true, eq_self, true_or, or_true, bi_01, mx_nl_i, mx_nl_r, mx_nl_n, mx_nl_f, mx_nl_d]
    exact k' h1 mk0 fx
  | succ n ih =>
    intro k h1 w2 hk mk fx
    have hlt : k < ns := by omega
    have hc : ¬ ((nI ns : Int32) ≤ nI k) := by rw [nI_leI (by omega) (by omega)]; omega
    have dk := di.gsl (G := G) k (by omega)
    have ih := ih (k + 1)
    rw [show gsl G m (k + 1) = gs1 G (gsl G m k) k from rfl] at ih
    generalize gsl G m k = m1 at mk dk ih
    obtain ⟨mi, mr, mt, ms, r, q, mx⟩ := mk
    obtain ⟨a, ea, ha, kd, hkd, ek, ho⟩ := mx.1 k hlt
    obtain ⟨q4, q5, q6⟩ := q.2.2.1 k hlt
    obtain ⟨d1, d2, d3, d4⟩ := dk.1 k (by omega)
    obtain ⟨x3, hx3, e3⟩ := d2
    obtain ⟨x4, hx4, e4⟩ := d3
    have i6 : mx_in (nI k) 6 = true := mx_inN (by omega) (by decide)
    have es : (if (99 : Int32) < m1 (20 + 8 * k + 4) + m1 (20 + 8 * k + 3) then 99 else m1 (20 + 8 * k + 4) + m1 (20 + 8 * k + 3)) = hd_ (m1 (20 + 8 * k + 4) + m1 (20 + 8 * k + 3)) 0 99 := min99 (n := x4 + x3) (by omega) (by rw [e3, e4, nI_add])
    have ep : (m1 (20 + 8 * k + 5) - m1 (20 + 8 * k + 2) * m1 (20 + 8 * k + 3) : Int32) = m1 (20 + 8 * k + 5) + -m1 (20 + 8 * k + 2) * m1 (20 + 8 * k + 3) := by rw [Int32.sub_eq_add_neg, Int32.neg_mul]
    have r2 := r.s4 (f := upd (mr 4) k (hd_ (m1 (20 + 8 * k + 4) + m1 (20 + 8 * k + 3)) 0 99))
    have ho2 : (h1.set (b + 4) (.inl (0, 6, .inl (upd (mr 4) k (hd_ (m1 (20 + 8 * k + 4) + m1 (20 + 8 * k + 3)) 0 99)))))[a]? = some (.inr (scl kd, sof (nI k) (nI kd) (m1 (20 + 8 * k + 1)) (m1 (20 + 8 * k + 2)) (m1 (20 + 8 * k + 3)))) := by rw [List.getElem?_set_ne (by omega)]; exact ho
    have f2 : FX b (b + 12) h1 _ := FX.set (h := h1) (a := b + 4) (x := .inl (0, 6, .inl (upd (mr 4) k (hd_ (m1 (20 + 8 * k + 4) + m1 (20 + 8 * k + 3)) 0 99)))) (by omega) (by omega) (by omega)
    have g5 := r2.g5
    rw [up2_n (by decide)] at g5
    have r3 := r2.s5 (f := upd (mr 5) k (hd_ (m1 (20 + 8 * k + 5) + -m1 (20 + 8 * k + 2) * m1 (20 + 8 * k + 3)) (-99999999) 99999999))
    have f3 := f2.tr (FX.set (a := b + 5) (x := .inl (0, 6, .inl (upd (mr 5) k (hd_ (m1 (20 + 8 * k + 5) + -m1 (20 + 8 * k + 2) * m1 (20 + 8 * k + 3)) (-99999999) 99999999)))) (by omega) (by omega) (by omega))
    have q3 := (q.u4 hns hlt (x := hd_ (m1 (20 + 8 * k + 4) + m1 (20 + 8 * k + 3)) 0 99)).u5 hns hlt (x := hd_ (m1 (20 + 8 * k + 5) + -m1 (20 + 8 * k + 2) * m1 (20 + 8 * k + 3)) (-99999999) 99999999)
    rw [up2_n (show 5 ≠ 4 by decide)] at q3
    have em : upd (upd m1 (20 + 8 * k + 4) (hd_ (m1 (20 + 8 * k + 4) + m1 (20 + 8 * k + 3)) 0 99)) (20 + 8 * k + 5) (hd_ (m1 (20 + 8 * k + 5) + -m1 (20 + 8 * k + 2) * m1 (20 + 8 * k + 3)) (-99999999) 99999999) = ea_ (upd m1 (20 + 8 * k + 4) (hd_ (m1 (20 + 8 * k + 4) + m1 (20 + 8 * k + 3)) 0 99)) k (-m1 (20 + 8 * k + 2) * m1 (20 + 8 * k + 3)) := by
      unfold ea_
      rw [pk_un (j := 20 + 8 * k + 5) (show 20 + 8 * k + 5 ≠ 20 + 8 * k + 4 by omega)]
    have mx3 : MX _ (upd (upd m1 (20 + 8 * k + 4) (hd_ (m1 (20 + 8 * k + 4) + m1 (20 + 8 * k + 3)) 0 99)) (20 + 8 * k + 5) (hd_ (m1 (20 + 8 * k + 5) + -m1 (20 + 8 * k + 2) * m1 (20 + 8 * k + 3)) (-99999999) 99999999)) G mt ms ns := (mx.ev f3.2.2).cg (fun s hs j hj => by rw [pk_un (by omega), pk_un (by omega)])
    rw [em] at q3 mx3
    obtain ⟨gk, gv⟩ := scl_gk hkd ho
    obtain ⟨gk2, gv2⟩ := scl_gk hkd ho2
    rw [i21_2]
    simp only [i21_0, i21_1, i21_3, i21_4, i21_7, i21_10, i21_11, i21_14, i21_15, i21_16, i21_17, i21_18, i21_21, i21_22, i21_23, i21_26, i21_27, i21_28, i21_29, i21_32, i21_33, i21_35, i21_38, i21_39, i21_40, i21_43, i21_44, i21_45, i21_48, i21_49, i21_50, i21_51, i21_54, i21_55, i21_58, i21_59, i21_60, i21_63, i21_64, i21_65, i21_68, i21_69, i21_70, i21_71, i21_74, i21_75, i21_78, i21_81, i21_e, kof_gk r.o, kof_gv r.o, q.1.2.2.2.2.1, hc, if_false, rr_rk r.gS, rr_ra r.gS, i6, nI_clamp (show k < 2 ^ 31 by omega), ea, mxv_s, show (mx_cmp 3).isSome = true from rfl, Bool.and_self, ar_ik r.g4, ar_ia r.g4, ar_is r.g4, q4, gk, gv, es, kof_gk r2.o, kof_gv r2.o, ar_ik g5, ar_ia g5, ar_is g5, q5, gk2, gv2, ep, k_hPurse, kof_gk r3.o, kof_gv r3.o, ob_co r3.o, Option.toList_some, Option.toList_none, List.nil_append, List.cons_append, true_and, and_true, eq_self, true_or, or_true, bi_01, mx_nl_i, mx_nl_r, mx_nl_n, mx_nl_f, mx_nl_d]
    refine k_would r3 q3 mx3 hns hlt (fun h4 f4 => ?_)
    have r4 := r3.fx f4 hb (by omega)
    have mx4 := mx3.ev f4.2.2
    have g6 := r4.g6
    rw [up2_n (by decide), up2_n (by decide)] at g6
    have r5 := r4.s6 (f := upd (mr 6) k (as_ G (ea_ (upd m1 (20 + 8 * k + 4) (hd_ (m1 (20 + 8 * k + 4) + m1 (20 + 8 * k + 3)) 0 99)) k (-m1 (20 + 8 * k + 2) * m1 (20 + 8 * k + 3))) k))
    have f5 : FX b (b + 12) h4 _ := FX.set (h := h4) (a := b + 6) (x := .inl (0, 6, .inl (upd (mr 6) k (as_ G (ea_ (upd m1 (20 + 8 * k + 4) (hd_ (m1 (20 + 8 * k + 4) + m1 (20 + 8 * k + 3)) 0 99)) k (-m1 (20 + 8 * k + 2) * m1 (20 + 8 * k + 3))) k)))) (by omega) (by omega) (by omega)
    have q5 := q3.u6 hns hlt (x := as_ G (ea_ (upd m1 (20 + 8 * k + 4) (hd_ (m1 (20 + 8 * k + 4) + m1 (20 + 8 * k + 3)) 0 99)) k (-m1 (20 + 8 * k + 2) * m1 (20 + 8 * k + 3))) k)
    rw [up2_n (show 6 ≠ 5 by decide), up2_n (show 6 ≠ 4 by decide)] at q5
    simp only [i21_0, i21_1, i21_3, i21_4, i21_7, i21_10, i21_11, i21_14, i21_15, i21_16, i21_17, i21_18, i21_21, i21_22, i21_23, i21_26, i21_27, i21_28, i21_29, i21_32, i21_33, i21_35, i21_38, i21_39, i21_40, i21_43, i21_44, i21_45, i21_48, i21_49, i21_50, i21_51, i21_54, i21_55, i21_58, i21_59, i21_60, i21_63, i21_64, i21_65, i21_68, i21_69, i21_70, i21_71, i21_74, i21_75, i21_78, i21_81, i21_e, ar_ik g6, ar_is g6, i6, nI_clamp (show k < 2 ^ 31 by omega), nI_1, Option.toList_some, Option.toList_none, List.nil_append, List.cons_append, true_and, and_true, eq_self, true_or, or_true, bi_01, mx_nl_i, mx_nl_r, mx_nl_n, mx_nl_f, mx_nl_d]
    refine ih _ _ (by omega) ⟨mi, _, mt, ms, r5, q5, ?_⟩ (fx.tr ((f3.tr (f4.wd (by omega))).tr f5))
    exact (mx4.ev f5.2.2).cg (fun s hs j hj => by unfold gs1; rw [pk_un (by omega)])
theorem k_askAll (hb : b ≤ 84) (hns : ns ≤ 6) (di : DI m) (mk : MK h b m G ns nb) (k' : ∀ h', MK h' b (gsl G m ns) G ns nb → FX b (b + 12) h h' → Q none h') : ev_ X (d + 4) 21 [.ref b] h Q := by
  simp only [i21_0, i21_1, i21_3, i21_4, i21_7, i21_10, i21_11, i21_14, i21_15, i21_16, i21_17, i21_18, i21_21, i21_22, i21_23, i21_26, i21_27, i21_28, i21_29, i21_32, i21_33, i21_35, i21_38, i21_39, i21_40, i21_43, i21_44, i21_45, i21_48, i21_49, i21_50, i21_51, i21_54, i21_55, i21_58, i21_59, i21_60, i21_63, i21_64, i21_65, i21_68, i21_69, i21_70, i21_71, i21_74, i21_75, i21_78, i21_81, i21_e, true_and, and_true, eq_self, true_or, or_true, bi_01, mx_nl_i, mx_nl_r, mx_nl_n, mx_nl_f, mx_nl_d]
  exact k_askAll_l (h := h) hb hns di k' ns 0 h _ (by omega) mk (FX.rf h)
end KF
