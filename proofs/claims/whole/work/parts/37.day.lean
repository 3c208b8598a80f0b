/-! the reference: a day, days -/
def gs1 (G : MXGf) (m : Nat → Int32) (s : Nat) : Nat → Int32 :=
  upd (ea_ (upd m (20 + 8 * s + 4) (hd_ (m (20 + 8 * s + 4) + m (20 + 8 * s + 3)) 0 99)) s (-m (20 + 8 * s + 2) * m (20 + 8 * s + 3))) (20 + 8 * s + 6) (as_ G (ea_ (upd m (20 + 8 * s + 4) (hd_ (m (20 + 8 * s + 4) + m (20 + 8 * s + 3)) 0 99)) s (-m (20 + 8 * s + 2) * m (20 + 8 * s + 3))) s)
def gsl (G : MXGf) (m : Nat → Int32) : Nat → Nat → Int32
  | 0 => m
  | n + 1 => gs1 G (gsl G m n) n
def gbl (G : MXGf) (m : Nat → Int32) (ns : Nat) : Nat → Nat → Int32
  | 0 => m
  | n + 1 => go_ G (gbl G m ns n) ns n
def by_ (G : MXGf) (m : Nat → Int32) (ns nb : Nat) : Nat → Int32 := upd (gbl G (gsl G m ns) ns nb) 0 (gbl G (gsl G m ns) ns nb 0 + 1)
def gon (G : MXGf) (m : Nat → Int32) (ns nb : Nat) : Nat → Nat → Int32
  | 0 => m
  | n + 1 => by_ G (gon G m ns nb n) ns nb
theorem gs1_at {G : MXGf} {m : Nat → Int32} {s j : Nat} (hs : s < 6) (hj : ¬ (20 ≤ j ∧ j < 68)) : gs1 G m s j = m j := by
  unfold gs1 ea_
  simp only [upd]
  rw [if_neg (by omega), if_neg (by omega), if_neg (by omega)]
theorem gsl_at {G : MXGf} {m : Nat → Int32} {j : Nat} (hj : ¬ (20 ≤ j ∧ j < 68)) : ∀ n, n ≤ 6 → gsl G m n j = m j
  | 0, _ => rfl
  | n + 1, h => by
    show gs1 G (gsl G m n) n j = _
    rw [gs1_at (by omega) hj]
    exact gsl_at hj n (by omega)
theorem go_at {G : MXGf} {m : Nat → Int32} {ns b j : Nat} (hns : ns ≤ 6) (hj : ¬ (20 ≤ j ∧ j < 68 ∧ ((j - 20) % 8 = 4 ∨ (j - 20) % 8 = 5))) (hb : j ≠ 70 + 4 * b + 3) : go_ G m ns b j = m j := by
  unfold go_
  simp only [upd]
  rw [if_neg hb]
  exact gl_kp hns _ _ _ _ _ hj
theorem gbl_at {G : MXGf} {m : Nat → Int32} {ns j : Nat} (hns : ns ≤ 6) (hj : ¬ (20 ≤ j ∧ j < 68 ∧ ((j - 20) % 8 = 4 ∨ (j - 20) % 8 = 5))) (hb : j < 70 ∨ 102 ≤ j) : ∀ n, n ≤ 8 → gbl G m ns n j = m j
  | 0, _ => rfl
  | n + 1, h => by
    show go_ G (gbl G m ns n) ns n j = _
    rw [go_at hns hj (by omega)]
    exact gbl_at hns hj hb n (by omega)
theorem by_at {G : MXGf} {m : Nat → Int32} {ns nb j : Nat} (hns : ns ≤ 6) (hnb : nb ≤ 8) (h0 : j ≠ 0) (hj : ¬ (20 ≤ j ∧ j < 68)) (hb : j < 70 ∨ 102 ≤ j) : by_ G m ns nb j = m j := by
  unfold by_
  simp only [upd]
  rw [if_neg h0, gbl_at hns (by omega) hb nb hnb, gsl_at hj ns hns]
theorem gon_at {G : MXGf} {m : Nat → Int32} {ns nb j : Nat} (hns : ns ≤ 6) (hnb : nb ≤ 8) (h0 : j ≠ 0) (hj : ¬ (20 ≤ j ∧ j < 68)) (hb : j < 70 ∨ 102 ≤ j) : ∀ n, gon G m ns nb n j = m j
  | 0 => rfl
  | n + 1 => by
    show by_ G (gon G m ns nb n) ns nb j = _
    rw [by_at hns hnb h0 hj hb]
    exact gon_at hns hnb h0 hj hb n
section R7
variable {X : MXX} {d : Nat} {h : MXH} {Q : MXP} {v : Nat → Int32} {A : Nat → Nat → Int32}
set_option maxHeartbeats 1000000 in
theorem c_goesBy_s {ai ns : Nat} (hi : ai < 2) (hns : ns ≤ 6) (hn1 : A ai 1 = nI ns) (ht : TO (A 0) 0)
    (fin : ∀ (h' : MXH) (A' : Nat → Nat → Int32) (w2 w3 : Value), RW h' v A' → FR h h' → S2 ai A A' → A' ai = gsl (G_ (A 0)) (A ai) ns → mx_nl w2 = true → ex_ X (d + 5) 170 74 [.ref 96, .ref (97 + ai), w2, w3] [] h' Q) :
    ∀ (n k : Nat) (h' : MXH) (A' : Nat → Nat → Int32) (w3 : Value), k + n = ns → RW h' v A' → FR h h' → S2 ai A A' → A' ai = gsl (G_ (A 0)) (A ai) k → ex_ X (d + 5) 170 2 [.ref 96, .ref (97 + ai), .int (nI k), w3] [] h' Q := by
  intro n
  induction n with
  | zero =>
    intro k h' A' w3 hk r fr s2 ea
    have e : k = ns := by omega
    subst e
    have ha := r.ga hi
    have e1 : A' ai 1 = nI k := by rw [ea, gsl_at (by omega) k hns, hn1]
    rw [i170_2]
    simp only [i170_0, i170_1, i170_3, i170_4, i170_5, i170_6, i170_9, i170_11, i170_13, i170_14, i170_15, i170_16, i170_17, i170_18, i170_19, i170_20, i170_21, i170_22, i170_23, i170_24, i170_25, i170_26, i170_27, i170_28, i170_29, i170_30, i170_31, i170_32, i170_33, i170_35, i170_38, i170_39, i170_40, i170_41, i170_42, i170_43, i170_44, i170_45, i170_46, i170_47, i170_48, i170_49, i170_50, i170_51, i170_52, i170_53, i170_56, i170_57, i170_58, i170_60, i170_61, i170_62, i170_63, i170_64, i170_67, i170_68, i170_71, i170_75, i170_76, i170_77, i170_78, i170_79, i170_80, i170_83, i170_84, i170_85, i170_86, i170_89, i170_92, i170_95, i170_96, i170_97, i170_98, i170_99, i170_100, i170_101, i170_102, i170_e, ar_ik ha, ar_ia ha, mx_k0, mx_t0, e1, Int32.le_refl, if_true, true_and, and_true, eq_self, true_or, or_true, bi_01, mx_nl_i, mx_nl_r, mx_nl_n, mx_nl_f, mx_nl_d]
    exact fin h' A' _ _ r fr s2 ea rfl
  | succ n ih =>
    intro k h' A' w3 hk r fr s2 ea
    have hs : k < 6 := by omega
    have ha := r.ga hi
    have e1 : A' ai 1 = nI ns := by rw [ea, gsl_at (by omega) k (by omega), hn1]
    have hc : ¬ ((nI ns : Int32) ≤ nI k) := by rw [nI_leI (by omega) (by omega)]; omega
    have x0 : (20 + 8 * nI k : Int32) = nI (20 + 8 * k) := by
      show nI 20 + nI 8 * nI k = _
      rw [pk_mul, nI_add]
    have x4 : (nI (20 + 8 * k) + 4 : Int32) = nI (20 + 8 * k + 4) := nI_add _ 4
    have x3 : (nI (20 + 8 * k) + 3 : Int32) = nI (20 + 8 * k + 3) := nI_add _ 3
    have x2 : (nI (20 + 8 * k) + 2 : Int32) = nI (20 + 8 * k + 2) := nI_add _ 2
    have x6 : (nI (20 + 8 * k) + 6 : Int32) = nI (20 + 8 * k + 6) := nI_add _ 6
    have k4 : mx_in (nI (20 + 8 * k + 4)) 280 = true := mx_inN (by omega) (by decide)
    have k3 : mx_in (nI (20 + 8 * k + 3)) 280 = true := mx_inN (by omega) (by decide)
    have k2 : mx_in (nI (20 + 8 * k + 2)) 280 = true := mx_inN (by omega) (by decide)
    have k6 : mx_in (nI (20 + 8 * k + 6)) 280 = true := mx_inN (by omega) (by decide)
    have r1 := r.sa (f := upd (A' ai) (20 + 8 * k + 4) (hd_ (A' ai (20 + 8 * k + 4) + A' ai (20 + 8 * k + 3)) 0 99)) hi
    have ha1 := r1.ga hi
    rw [up2_s] at ha1
    have u2 : upd (A' ai) (20 + 8 * k + 4) (hd_ (A' ai (20 + 8 * k + 4) + A' ai (20 + 8 * k + 3)) 0 99) (20 + 8 * k + 2) = A' ai (20 + 8 * k + 2) := by unfold upd; rw [if_neg (by omega)]
    have u3 : upd (A' ai) (20 + 8 * k + 4) (hd_ (A' ai (20 + 8 * k + 4) + A' ai (20 + 8 * k + 3)) 0 99) (20 + 8 * k + 3) = A' ai (20 + 8 * k + 3) := by unfold upd; rw [if_neg (by omega)]
    have r2 := r.sa (f := ea_ (upd (A' ai) (20 + 8 * k + 4) (hd_ (A' ai (20 + 8 * k + 4) + A' ai (20 + 8 * k + 3)) 0 99)) k (-A' ai (20 + 8 * k + 2) * A' ai (20 + 8 * k + 3))) hi
    have te2 : TE (A' ai) (up2 A' ai (ea_ (upd (A' ai) (20 + 8 * k + 4) (hd_ (A' ai (20 + 8 * k + 4) + A' ai (20 + 8 * k + 3)) 0 99)) k (-A' ai (20 + 8 * k + 2) * A' ai (20 + 8 * k + 3))) ai) := by
      rw [up2_s]; exact (TE.up (by omega)).tr (TE.up (by omega))
    have te0 : TE (A ai) (A' ai) := fun j hj => by rw [ea]; exact gsl_at (by omega) k (by omega)
    have t2 := TO_S2 (TO_S2 ht s2 hi te0) (S2.up) hi te2
    have g2 := (G_S2 (S2.up) hi te2).trans (G_S2 s2 hi te0)
    rw [i170_2]
    simp only [i170_0, i170_1, i170_3, i170_4, i170_5, i170_6, i170_9, i170_11, i170_13, i170_14, i170_15, i170_16, i170_17, i170_18, i170_19, i170_20, i170_21, i170_22, i170_23, i170_24, i170_25, i170_26, i170_27, i170_28, i170_29, i170_30, i170_31, i170_32, i170_33, i170_35, i170_38, i170_39, i170_40, i170_41, i170_42, i170_43, i170_44, i170_45, i170_46, i170_47, i170_48, i170_49, i170_50, i170_51, i170_52, i170_53, i170_56, i170_57, i170_58, i170_60, i170_61, i170_62, i170_63, i170_64, i170_67, i170_68, i170_71, i170_75, i170_76, i170_77, i170_78, i170_79, i170_80, i170_83, i170_84, i170_85, i170_86, i170_89, i170_92, i170_95, i170_96, i170_97, i170_98, i170_99, i170_100, i170_101, i170_102, i170_e, ar_ik ha, ar_ia ha, ar_is ha, ar_ik ha1, ar_ia ha1, mx_k0, mx_t0, e1, hc, if_false, x0, x2, x3, x4, x6, k2, k3, k4, k6, nI_clamp (show 20 + 8 * k + 4 < 2 ^ 31 by omega), nI_clamp (show 20 + 8 * k + 3 < 2 ^ 31 by omega), nI_clamp (show 20 + 8 * k + 2 < 2 ^ 31 by omega), c_held, c_earns ha1 hs, List.set_set, u2, u3, ob_co r2.o, Option.toList_some, Option.toList_none, List.nil_append, List.cons_append, true_and, and_true, eq_self, true_or, or_true, bi_01, mx_nl_i, mx_nl_r, mx_nl_n, mx_nl_f, mx_nl_d]
    refine c_asks r2 t2 hi hs (fun h3 A3 r3 fr3 sc3 => ?_)
    have ea3 : A3 ai = _ := (sc3 ai (by omega) (by omega)).trans (up2_s ai)
    have ha3 := r3.ga hi
    rw [up2_s, g2]
    simp only [i170_0, i170_1, i170_3, i170_4, i170_5, i170_6, i170_9, i170_11, i170_13, i170_14, i170_15, i170_16, i170_17, i170_18, i170_19, i170_20, i170_21, i170_22, i170_23, i170_24, i170_25, i170_26, i170_27, i170_28, i170_29, i170_30, i170_31, i170_32, i170_33, i170_35, i170_38, i170_39, i170_40, i170_41, i170_42, i170_43, i170_44, i170_45, i170_46, i170_47, i170_48, i170_49, i170_50, i170_51, i170_52, i170_53, i170_56, i170_57, i170_58, i170_60, i170_61, i170_62, i170_63, i170_64, i170_67, i170_68, i170_71, i170_75, i170_76, i170_77, i170_78, i170_79, i170_80, i170_83, i170_84, i170_85, i170_86, i170_89, i170_92, i170_95, i170_96, i170_97, i170_98, i170_99, i170_100, i170_101, i170_102, i170_e, ar_ik ha3, ar_is ha3, k6, nI_clamp (show 20 + 8 * k + 6 < 2 ^ 31 by omega), nI_1, Option.toList_some, Option.toList_none, List.nil_append, List.cons_append, true_and, and_true, eq_self, true_or, or_true, bi_01, mx_nl_i, mx_nl_r, mx_nl_n, mx_nl_f, mx_nl_d]
    refine ih (k + 1) _ _ _ (by omega) (r3.sa hi) ((fr.tr (FR.set (by omega) (by omega))).tr (fr3.tr (FR.set (by omega) (by omega)))) ((s2.tr S2.up).tr (sc3.s2.tr S2.up)) ?_
    rw [up2_s, ea3, ea]
    rfl
set_option maxHeartbeats 1000000 in
theorem c_goesBy_b {ai ns nb : Nat} {m : Nat → Int32} (hi : ai < 2) (hns : ns ≤ 6) (hnb : nb ≤ 8) (hn1 : m 1 = nI ns) (hn2 : m 2 = nI nb) (h3 : ∃ e : Nat, e < 3 ∧ m 3 = nI e) (hm : TE (A ai) m) (ht : TO (A 0) 1)
    (k' : ∀ h' A', RW h' v A' → FR h h' → S2 ai A A' → A' ai = upd (gbl (G_ (A 0)) m ns nb) 0 (gbl (G_ (A 0)) m ns nb 0 + 1) → Q none h') :
    ∀ (n k : Nat) (h' : MXH) (A' : Nat → Nat → Int32) (w3 : Value), k + n = nb → RW h' v A' → FR h h' → S2 ai A A' → A' ai = gbl (G_ (A 0)) m ns k → ex_ X (d + 5) 170 76 [.ref 96, .ref (97 + ai), .int (nI k), w3] [] h' Q := by
  intro n
  induction n with
  | zero =>
    intro k h' A' w3 hk r fr s2 ea
    have e : k = nb := by omega
    subst e
    have ha := r.ga hi
    have e2 : A' ai 2 = nI k := by rw [ea, gbl_at hns (by omega) (by omega) k hnb, hn2]
    rw [i170_76]
    simp only [i170_0, i170_1, i170_2, i170_3, i170_4, i170_5, i170_6, i170_9, i170_11, i170_13, i170_14, i170_15, i170_16, i170_17, i170_18, i170_19, i170_20, i170_21, i170_22, i170_23, i170_24, i170_25, i170_26, i170_27, i170_28, i170_29, i170_30, i170_31, i170_32, i170_33, i170_35, i170_38, i170_39, i170_40, i170_41, i170_42, i170_43, i170_44, i170_45, i170_46, i170_47, i170_48, i170_49, i170_50, i170_51, i170_52, i170_53, i170_56, i170_57, i170_58, i170_60, i170_61, i170_62, i170_63, i170_64, i170_67, i170_68, i170_71, i170_74, i170_75, i170_77, i170_78, i170_79, i170_80, i170_83, i170_84, i170_85, i170_86, i170_89, i170_92, i170_95, i170_96, i170_97, i170_98, i170_99, i170_100, i170_101, i170_102, i170_e, ar_ik ha, ar_ia ha, ar_is ha, mx_k0, mx_t0, e2, Int32.le_refl, if_true, true_and, and_true, eq_self, true_or, or_true, bi_01, mx_nl_i, mx_nl_r, mx_nl_n, mx_nl_f, mx_nl_d]
    refine k' _ _ (r.sa hi) (fr.tr (FR.set (by omega) (by omega))) (s2.tr S2.up) ?_
    rw [up2_s, ea]
  | succ n ih =>
    intro k h' A' w3 hk r fr s2 ea
    have hs : k < 8 := by omega
    have ha := r.ga hi
    have e1 : A' ai 1 = nI ns := by rw [ea, gbl_at hns (by omega) (by omega) k (by omega), hn1]
    have e2 : A' ai 2 = nI nb := by rw [ea, gbl_at hns (by omega) (by omega) k (by omega), hn2]
    have e3 : ∃ e : Nat, e < 3 ∧ A' ai 3 = nI e := by rw [ea, gbl_at hns (by omega) (by omega) k (by omega)]; exact h3
    have hc : ¬ ((nI nb : Int32) ≤ nI k) := by rw [nI_leI (by omega) (by omega)]; omega
    have te0 : TE (A ai) (A' ai) := hm.tr (fun j hj => by rw [ea]; exact gbl_at hns (by omega) (by omega) k (by omega))
    rw [i170_76]
    simp only [i170_0, i170_1, i170_2, i170_3, i170_4, i170_5, i170_6, i170_9, i170_11, i170_13, i170_14, i170_15, i170_16, i170_17, i170_18, i170_19, i170_20, i170_21, i170_22, i170_23, i170_24, i170_25, i170_26, i170_27, i170_28, i170_29, i170_30, i170_31, i170_32, i170_33, i170_35, i170_38, i170_39, i170_40, i170_41, i170_42, i170_43, i170_44, i170_45, i170_46, i170_47, i170_48, i170_49, i170_50, i170_51, i170_52, i170_53, i170_56, i170_57, i170_58, i170_60, i170_61, i170_62, i170_63, i170_64, i170_67, i170_68, i170_71, i170_74, i170_75, i170_77, i170_78, i170_79, i170_80, i170_83, i170_84, i170_85, i170_86, i170_89, i170_92, i170_95, i170_96, i170_97, i170_98, i170_99, i170_100, i170_101, i170_102, i170_e, ar_ik ha, ar_ia ha, mx_k0, mx_t0, e2, hc, if_false, ob_co r.o, Option.toList_some, Option.toList_none, List.nil_append, List.cons_append, true_and, and_true, eq_self, true_or, or_true, bi_01, mx_nl_i, mx_nl_r, mx_nl_n, mx_nl_f, mx_nl_d]
    refine c_go r hi hns hs e1 e3 (TO_S2 ht s2 hi te0) (fun h4 A4 r4 fr4 s4 ea4 => ?_)
    rw [G_S2 s2 hi te0] at ea4
    simp only [i170_0, i170_1, i170_2, i170_3, i170_4, i170_5, i170_6, i170_9, i170_11, i170_13, i170_14, i170_15, i170_16, i170_17, i170_18, i170_19, i170_20, i170_21, i170_22, i170_23, i170_24, i170_25, i170_26, i170_27, i170_28, i170_29, i170_30, i170_31, i170_32, i170_33, i170_35, i170_38, i170_39, i170_40, i170_41, i170_42, i170_43, i170_44, i170_45, i170_46, i170_47, i170_48, i170_49, i170_50, i170_51, i170_52, i170_53, i170_56, i170_57, i170_58, i170_60, i170_61, i170_62, i170_63, i170_64, i170_67, i170_68, i170_71, i170_74, i170_75, i170_77, i170_78, i170_79, i170_80, i170_83, i170_84, i170_85, i170_86, i170_89, i170_92, i170_95, i170_96, i170_97, i170_98, i170_99, i170_100, i170_101, i170_102, i170_e, nI_1, Option.toList_some, Option.toList_none, List.nil_append, List.cons_append, true_and, and_true, eq_self, true_or, or_true, bi_01, mx_nl_i, mx_nl_r, mx_nl_n, mx_nl_f, mx_nl_d]
    refine ih (k + 1) h4 A4 w3 (by omega) r4 (fr.tr fr4) (s2.tr s4) ?_
    rw [ea4, ea]
    rfl
theorem c_goesBy (r : RW h v A) {ai ns nb : Nat} (hi : ai < 2) (hns : ns ≤ 6) (hnb : nb ≤ 8) (hn1 : A ai 1 = nI ns) (hn2 : A ai 2 = nI nb) (h3 : ∃ e : Nat, e < 3 ∧ A ai 3 = nI e) (ht0 : TO (A 0) 0) (ht : TO (A 0) 1)
    (k : ∀ h' A', RW h' v A' → FR h h' → S2 ai A A' → A' ai = by_ (G_ (A 0)) (A ai) ns nb → Q none h') : ev_ X (d + 5) 170 [.ref 96, .ref (97 + ai)] h Q := by
  simp only [i170_0, i170_1, i170_3, i170_4, i170_5, i170_6, i170_9, i170_11, i170_13, i170_14, i170_15, i170_16, i170_17, i170_18, i170_19, i170_20, i170_21, i170_22, i170_23, i170_24, i170_25, i170_26, i170_27, i170_28, i170_29, i170_30, i170_31, i170_32, i170_33, i170_35, i170_38, i170_39, i170_40, i170_41, i170_42, i170_43, i170_44, i170_45, i170_46, i170_47, i170_48, i170_49, i170_50, i170_51, i170_52, i170_53, i170_56, i170_57, i170_58, i170_60, i170_61, i170_62, i170_63, i170_64, i170_67, i170_68, i170_71, i170_74, i170_75, i170_76, i170_77, i170_78, i170_79, i170_80, i170_83, i170_84, i170_85, i170_86, i170_89, i170_92, i170_95, i170_96, i170_97, i170_98, i170_99, i170_100, i170_101, i170_102, i170_e, true_and, and_true, eq_self, true_or, or_true, bi_01, mx_nl_i, mx_nl_r, mx_nl_n, mx_nl_f, mx_nl_d]
  refine c_goesBy_s (A := A) (h := h) hi hns hn1 ht0 ?_ ns 0 h A _ (by omega) r (FR.rf h) (fun _ _ _ _ _ => rfl) rfl
  intro h1 A1 w2 w3 r1 fr1 s1 ea1 hw
  have te : TE (A ai) (gsl (G_ (A 0)) (A ai) ns) := fun j hj => gsl_at (by omega) ns hns
  simp only [i170_0, i170_1, i170_3, i170_4, i170_5, i170_6, i170_9, i170_11, i170_13, i170_14, i170_15, i170_16, i170_17, i170_18, i170_19, i170_20, i170_21, i170_22, i170_23, i170_24, i170_25, i170_26, i170_27, i170_28, i170_29, i170_30, i170_31, i170_32, i170_33, i170_35, i170_38, i170_39, i170_40, i170_41, i170_42, i170_43, i170_44, i170_45, i170_46, i170_47, i170_48, i170_49, i170_50, i170_51, i170_52, i170_53, i170_56, i170_57, i170_58, i170_60, i170_61, i170_62, i170_63, i170_64, i170_67, i170_68, i170_71, i170_74, i170_75, i170_77, i170_78, i170_79, i170_80, i170_83, i170_84, i170_85, i170_86, i170_89, i170_92, i170_95, i170_96, i170_97, i170_98, i170_99, i170_100, i170_101, i170_102, i170_e, hw, true_and, and_true, eq_self, true_or, or_true, bi_01, mx_nl_i, mx_nl_r, mx_nl_n, mx_nl_f, mx_nl_d]
  refine c_goesBy_b (A := A) (h := h) (m := gsl (G_ (A 0)) (A ai) ns) hi hns hnb (by rw [gsl_at (by omega) ns hns, hn1]) (by rw [gsl_at (by omega) ns hns, hn2]) (by rw [gsl_at (by omega) ns hns]; exact h3) te ht ?_ nb 0 h1 A1 w3 (by omega) r1 fr1 s1 ea1
  exact fun h' A' r' fr' s2 e => k h' A' r' fr' s2 e
/-- what a row must be for days to go by -/
def MD (m : Nat → Int32) (ns nb : Nat) : Prop := ns ≤ 6 ∧ nb ≤ 8 ∧ m 1 = nI ns ∧ m 2 = nI nb ∧ (∃ e : Nat, e < 3 ∧ m 3 = nI e)
theorem MD.by {G : MXGf} {m : Nat → Int32} {ns nb : Nat} (h : MD m ns nb) : MD (by_ G m ns nb) ns nb := by
  obtain ⟨h1, h2, h3, h4, h5⟩ := h
  exact ⟨h1, h2, by rw [by_at h1 h2 (by omega) (by omega) (by omega), h3], by rw [by_at h1 h2 (by omega) (by omega) (by omega), h4], by rw [by_at h1 h2 (by omega) (by omega) (by omega)]; exact h5⟩
theorem MD.gon {G : MXGf} {m : Nat → Int32} {ns nb : Nat} (h : MD m ns nb) : ∀ n, MD (gon G m ns nb n) ns nb
  | 0 => h
  | n + 1 => (MD.gon h n).by
theorem c_goesOn_l {ai ns nb N : Nat} (hN : N < 2 ^ 31) (hi : ai < 2) (hm : MD (A ai) ns nb) (ht0 : TO (A 0) 0) (ht : TO (A 0) 1)
    (k' : ∀ h' A', RW h' v A' → FR h h' → S2 ai A A' → A' ai = gon (G_ (A 0)) (A ai) ns nb N → Q none h') :
    ∀ (n k : Nat) (h' : MXH) (A' : Nat → Nat → Int32), k + n = N → RW h' v A' → FR h h' → S2 ai A A' → A' ai = gon (G_ (A 0)) (A ai) ns nb k → ex_ X (d + 6) 171 2 [.ref 96, .ref (97 + ai), .int (nI N), .int (nI k)] [] h' Q := by
  intro n
  induction n with
  | zero =>
    intro k h' A' hk r fr s2 ea
    have e : k = N := by omega
    subst e
    rw [i171_2]
    simp only [i171_0, i171_1, i171_3, i171_4, i171_7, i171_8, i171_9, i171_12, i171_15, i171_18, i171_e, Int32.le_refl, if_true, true_and, and_true, eq_self, true_or, or_true, bi_01, mx_nl_i, mx_nl_r, mx_nl_n, mx_nl_f, mx_nl_d]
    exact k' h' A' r fr s2 ea
  | succ n ih =>
    intro k h' A' hk r fr s2 ea
    have hc : ¬ ((nI N : Int32) ≤ nI k) := by rw [nI_leI (by omega) (by omega)]; omega
    have te0 : TE (A ai) (A' ai) := fun j hj => by rw [ea]; exact gon_at hm.1 hm.2.1 (by omega) (by omega) (by omega) k
    have md := hm.gon (G := G_ (A 0)) k
    rw [← ea] at md
    rw [i171_2]
    simp only [i171_0, i171_1, i171_3, i171_4, i171_7, i171_8, i171_9, i171_12, i171_15, i171_18, i171_e, hc, if_false, ob_co r.o, Option.toList_some, Option.toList_none, List.nil_append, List.cons_append, true_and, and_true, eq_self, true_or, or_true, bi_01, mx_nl_i, mx_nl_r, mx_nl_n, mx_nl_f, mx_nl_d]
    refine c_goesBy r hi md.1 md.2.1 md.2.2.1 md.2.2.2.1 md.2.2.2.2 (TO_S2 ht0 s2 hi te0) (TO_S2 ht s2 hi te0) (fun h4 A4 r4 fr4 s4 ea4 => ?_)
    rw [G_S2 s2 hi te0, ea] at ea4
    simp only [i171_0, i171_1, i171_3, i171_4, i171_7, i171_8, i171_9, i171_12, i171_15, i171_18, i171_e, nI_1, Option.toList_some, Option.toList_none, List.nil_append, List.cons_append, true_and, and_true, eq_self, true_or, or_true, bi_01, mx_nl_i, mx_nl_r, mx_nl_n, mx_nl_f, mx_nl_d]
    exact ih (k + 1) h4 A4 (by omega) r4 (fr.tr fr4) (s2.tr s4) ea4
theorem c_goesOn (r : RW h v A) {ai ns nb N : Nat} (hN : N < 2 ^ 31) (hi : ai < 2) (hm : MD (A ai) ns nb) (ht0 : TO (A 0) 0) (ht : TO (A 0) 1)
    (k : ∀ h' A', RW h' v A' → FR h h' → S2 ai A A' → A' ai = gon (G_ (A 0)) (A ai) ns nb N → Q none h') : ev_ X (d + 6) 171 [.ref 96, .ref (97 + ai), .int (nI N)] h Q := by
  simp only [i171_0, i171_1, i171_3, i171_4, i171_7, i171_8, i171_9, i171_12, i171_15, i171_18, i171_e, true_and, and_true, eq_self, true_or, or_true, bi_01, mx_nl_i, mx_nl_r, mx_nl_n, mx_nl_f, mx_nl_d]
  exact c_goesOn_l (A := A) (h := h) hN hi hm ht0 ht k N 0 h A (by omega) r (FR.rf h) (fun _ _ _ _ _ => rfl) rfl
/-- the copy, then days -/
theorem cpf_lt {f g : Nat → Int32} {j : Nat} (hj : j < 280) : cpf f g 280 j = f j := by unfold cpf; rw [if_pos hj]
end R7
