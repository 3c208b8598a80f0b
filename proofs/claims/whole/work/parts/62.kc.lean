/-! the component: a market's small methods -/
theorem mxv_n : mx_vr none = .null := rfl
theorem mxv_s {a : Nat} : mx_vr (some a) = .ref a := rfl
theorem i32_le_lt {a b : Int32} : a ≤ b ↔ ¬ b < a := Int32.not_lt.symm
/-- held within bounds: both ways of saying it -/
theorem hd_mm {p lo hi : Int32} (hl : lo ≤ hi) : (if lo < (if hi < p then hi else p) then (if hi < p then hi else p) else lo) = hd_ p lo hi := by
  unfold hd_
  simp only [Int32.lt_iff_toInt_lt, Int32.le_iff_toInt_le] at *
  by_cases c1 : hi.toInt < p.toInt
  · rw [if_pos c1, if_neg (show ¬ p.toInt < lo.toInt by omega)]
    by_cases c2 : lo.toInt < hi.toInt
    · rw [if_pos c2]
    · rw [if_neg c2]; exact Int32.toInt_inj.mp (by omega)
  · rw [if_neg c1]
    by_cases c2 : lo.toInt < p.toInt
    · rw [if_pos c2, if_neg (show ¬ p.toInt < lo.toInt by omega)]
    · rw [if_neg c2]
      by_cases c3 : p.toInt < lo.toInt
      · rw [if_pos c3]
      · rw [if_neg c3]; exact Int32.toInt_inj.mp (by omega)
section KC
variable {X : MXX} {d : Nat} {h : MXH} {Q : MXP} {b : Nat} {m mi : Nat → Int32} {mr : Nat → Nat → Int32} {mt ms : Nat → Option Nat} {G : MXGf} {ns nb : Nat}
theorem k_hPrice {p : Int32} : ev_ X (d + 1) 28 [.int p] h Q = Q (some (.int (hd_ p 0 999))) h := by
  simp only [i28_0, i28_1, i28_2, i28_5, i28_8, i28_11, i28_e, hd_mm (show (0 : Int32) ≤ 999 by decide)]
theorem k_hPurse {p : Int32} : ev_ X (d + 1) 29 [.int p] h Q = Q (some (.int (hd_ p (-99999999) 99999999))) h := by
  simp only [i29_0, i29_2, i29_3, i29_5, i29_8, i29_11, i29_e, hd_mm (show (-99999999 : Int32) ≤ 99999999 by decide)]
theorem k_gives (r : KM h b mi mr mt ms) (mx : MX h m G mt ms ns) {u : Nat} (hu : u < 2) {a c e f : Int32} (k' : ∀ h', FX 0 0 h h' → Q (some (.int (G u a c e f))) h') : ev_ X (d + 1) 16 [.ref b, .int (nI u), .int a, .int c, .int e, .int f] h Q := by
  rcases mx.2 u hu with ⟨hn, hg⟩ | ⟨t, P, ht, hT, hg⟩
  · have k2 := k' h (FX.rf h)
    rw [hg] at k2
    rcases (show u = 0 ∨ u = 1 by omega) with e0 | e0
    · subst e0
      simp only [gdf, if_true] at k2
      simp only [i16_0, i16_0n, i16_1, i16_4, i16_5, i16_6, i16_6n, i16_8, i16_8n, i16_10n, i16_10, i16_13, i16_13n, i16_15, i16_16, i16_17, i16_19, i16_21, i16_24, i16_25, i16_26, i16_29, i16_30, i16_32, i16_33, i16_36, i16_37, i16_39, i16_40, i16_42, i16_45, i16_46, i16_49, i16_50, i16_e, kof_gk r.o, kof_gv r.o, rr_rk r.gT, rr_ra r.gT, show mx_in 0 2 = true from by decide, mx_t0, hn, mxv_n, show (mx_cmp 2).isSome = true from rfl, Bool.and_self, show (nI 0 : Int32) = 0 from rfl, not_true_eq_false, if_false, if_true, mx_iteQ, true_and, and_true, eq_self, true_or, or_true, bi_01, mx_nl_i, mx_nl_r, mx_nl_n, mx_nl_f, mx_nl_d]
      exact k2
    · subst e0
      simp only [gdf, show ¬ (1 = 0) from by decide, if_false] at k2
      simp only [i16_0, i16_0n, i16_1, i16_4, i16_5, i16_6, i16_6n, i16_8, i16_8n, i16_10n, i16_10, i16_13, i16_13n, i16_15, i16_16, i16_17, i16_19, i16_21, i16_24, i16_25, i16_26, i16_29, i16_30, i16_32, i16_33, i16_36, i16_37, i16_39, i16_40, i16_42, i16_45, i16_46, i16_49, i16_50, i16_e, kof_gk r.o, kof_gv r.o, rr_rk r.gT, rr_ra r.gT, show mx_in 1 2 = true from by decide, mx_t0, hn, mxv_n, show (mx_cmp 2).isSome = true from rfl, Bool.and_self, show (nI 1 : Int32) = 1 from rfl, show ¬ ((1 : Int32) = 0) from by decide, not_false_eq_true, if_false, if_true, mx_iteQ, true_and, and_true, eq_self, true_or, or_true, bi_01, mx_nl_i, mx_nl_r, mx_nl_n, mx_nl_f, mx_nl_d]
      exact k2
  · have hT2 := hT
    obtain ⟨_, _, ⟨w, ti, o, _, _⟩, _⟩ := hT
    simp only [i16_0, i16_0n, i16_1, i16_4, i16_5, i16_6, i16_6n, i16_8, i16_8n, i16_10n, i16_10, i16_13, i16_13n, i16_15, i16_16, i16_17, i16_19, i16_21, i16_24, i16_25, i16_26, i16_29, i16_30, i16_32, i16_33, i16_36, i16_37, i16_39, i16_40, i16_42, i16_45, i16_46, i16_49, i16_50, i16_e, kof_gk r.o, kof_gv r.o, rr_rk r.gT, rr_ra r.gT, mx_inN hu (by decide), nI_clamp (show u < 2 ^ 31 by omega), ht, mxv_s, show (mx_cmp 2).isSome = true from rfl, Bool.and_self, ob_co o, true_and, and_true, eq_self, true_or, or_true, bi_01, mx_nl_i, mx_nl_r, mx_nl_n, mx_nl_f, mx_nl_d]
    refine k_tgives hT2 (fun h' f => ?_)
    simp only [i16_0, i16_0n, i16_1, i16_4, i16_5, i16_6, i16_6n, i16_8, i16_8n, i16_10n, i16_10, i16_13, i16_13n, i16_15, i16_16, i16_17, i16_19, i16_21, i16_24, i16_25, i16_26, i16_29, i16_30, i16_32, i16_33, i16_36, i16_37, i16_39, i16_40, i16_42, i16_45, i16_46, i16_49, i16_50, i16_e, Option.toList_some, Option.toList_none, List.nil_append, List.cons_append]
    rw [← hg]
    exact k' h' f
theorem k_feels (r : KM h b mi mr mt ms) (q : MR m mi mr ns nb) {s : Nat} (hs : s < nb) (hb : nb ≤ 8) (h3 : ∃ e : Nat, e < 3 ∧ m 3 = nI e) : ev_ X d 15 [.ref b, .int (nI s)] h Q = Q (some (.int (fe_ m s))) h := by
  obtain ⟨e, he, h3⟩ := h3
  have e1 : mi 1 = nI e := by rw [q.1.2.1, h3]
  have e2 := q.2.1 e he
  have e3 := (q.2.2.2 s hs).2.1
  unfold fe_
  simp only [i15_0, i15_1, i15_4, i15_5, i15_6, i15_7, i15_10, i15_11, i15_14, i15_15, i15_16, i15_18, i15_19, i15_e, kof_gk r.o, kof_gv r.o, e1, ar_ik r.g1, ar_ia r.g1, ar_ik r.g9, ar_ia r.g9, mx_inN he (by decide), mx_inN (show s < 8 by omega) (by decide), nI_clamp (show e < 2 ^ 31 by omega), nI_clamp (show s < 2 ^ 31 by omega), e2, e3, h3, ne_eq, show ¬ ((10 : Int32) = 0) from by decide, not_false_eq_true, true_and, and_true, eq_self, true_or, or_true, bi_01, mx_nl_i, mx_nl_r, mx_nl_n, mx_nl_f, mx_nl_d]
theorem k_may (r : KM h b mi mr mt ms) (q : MR m mi mr ns nb) (mx : MX h m G mt ms ns) {o p : Int32} (k' : ∀ h', FX 0 0 h h' → Q (some (.int (bi_ (decide (o < 0 ∨ m 11 = 1 ∨ ¬ G 0 p o (m 0) (m 7) = 0))))) h') : ev_ X (d + 2) 17 [.ref b, .int o, .int p] h Q := by
  by_cases c1 : o < 0
  · have k2 := k' h (FX.rf h)
    simp only [c1, true_or, decide_true] at k2
    simp only [i17_0, i17_1, i17_4, i17_5, i17_8, i17_11, i17_12, i17_13, i17_14, i17_15, i17_16, i17_19, i17_20, i17_23, i17_26, i17_29, i17_30, i17_33, i17_34, i17_e, c1, if_true, true_and, and_true, eq_self, true_or, or_true, bi_01, mx_nl_i, mx_nl_r, mx_nl_n, mx_nl_f, mx_nl_d]
    exact k2
  · have e3 := q.1.2.2.2.1
    by_cases c2 : m 11 = 1
    · have k2 := k' h (FX.rf h)
      simp only [c2, true_or, or_true, decide_true] at k2
      simp only [c2, not_true_eq_false, decide_false] at e3
      simp only [i17_0, i17_1, i17_4, i17_5, i17_8, i17_11, i17_12, i17_13, i17_14, i17_15, i17_16, i17_19, i17_20, i17_23, i17_26, i17_29, i17_30, i17_33, i17_34, i17_e, c1, kof_gk r.o, kof_gv r.o, e3, show bi_ false = 0 from rfl, if_true, if_false, true_and, and_true, eq_self, true_or, or_true, bi_01, mx_nl_i, mx_nl_r, mx_nl_n, mx_nl_f, mx_nl_d]
      exact k2
    · simp only [c2, not_false_eq_true, decide_true] at e3
      simp only [i17_0, i17_1, i17_4, i17_5, i17_8, i17_11, i17_12, i17_13, i17_14, i17_15, i17_16, i17_19, i17_20, i17_23, i17_26, i17_29, i17_30, i17_33, i17_34, i17_e, c1, kof_gk r.o, kof_gv r.o, e3, show ¬ (bi_ true = 0) from by decide, if_false, ob_co r.o, q.1.1, q.1.2.2.1, true_and, and_true, eq_self, true_or, or_true, bi_01, mx_nl_i, mx_nl_r, mx_nl_n, mx_nl_f, mx_nl_d]
      refine k_gives r mx (u := 0) (by decide) (fun h' f => ?_)
      have k2 := k' h' f
      simp only [c1, c2, false_or] at k2
      by_cases c3 : G 0 p o (m 0) (m 7) = 0
      · simp only [c3, not_true_eq_false, decide_false] at k2
        simp only [i17_0, i17_1, i17_4, i17_5, i17_8, i17_11, i17_12, i17_13, i17_14, i17_15, i17_16, i17_19, i17_20, i17_23, i17_26, i17_29, i17_30, i17_33, i17_34, i17_e, c3, if_true, Option.toList_some, Option.toList_none, List.nil_append, List.cons_append, true_and, and_true, eq_self, true_or, or_true, bi_01, mx_nl_i, mx_nl_r, mx_nl_n, mx_nl_f, mx_nl_d]
        exact k2
      · simp only [c3, not_false_eq_true, decide_true] at k2
        simp only [i17_0, i17_1, i17_4, i17_5, i17_8, i17_11, i17_12, i17_13, i17_14, i17_15, i17_16, i17_19, i17_20, i17_23, i17_26, i17_29, i17_30, i17_33, i17_34, i17_e, c3, if_false, Option.toList_some, Option.toList_none, List.nil_append, List.cons_append, true_and, and_true, eq_self, true_or, or_true, bi_01, mx_nl_i, mx_nl_r, mx_nl_n, mx_nl_f, mx_nl_d]
        exact k2
end KC
/-! what sellers wish, by kinds -/
def pln (sl : Int32) : Int32 := if 0 ≤ sl then sl else 500
def hgh (y sl : Int32) : Int32 := if 0 ≤ sl then sl - y else 900
def wsk (k : Nat) (y c sl st : Int32) : Int32 := if k = 0 then pln sl else if k = 1 then hgh y sl else if k = 2 then pln sl - y else if k = 3 then (if st < 20 then pln sl - y else pln sl - y - y) else if k = 4 then (if st < 60 then pln sl else pln sl - y) else if k = 5 then (if (if st < 60 then pln sl else pln sl - y) < c then c else (if st < 60 then pln sl else pln sl - y)) else (if c ≤ hgh y sl then hgh y sl else 900)
def wpk (k : Nat) (y c sl : Int32) : Bool := decide (k = 6 ∧ hgh y sl < c)
section KW
variable {X : MXX} {d : Nat} {h : MXH} {Q : MXP} {a : Nat} {n kk y c w sl st : Int32}
theorem k_ws6 : ev_ X d 41 [.ref a, .int sl, .int st] h Q = Q (some (.int (pln sl))) h := by
  simp only [i41_0, i41_1, i41_4, i41_7, i41_10, i41_11, i41_e, mx_iteQ, pln]
theorem k_ws0 (ho : h[a]? = some (.inr (0, sof n kk y c w))) : ev_ X d 1 [.ref a, .int sl, .int st] h Q = Q (some (.int (hgh y sl))) h := by
  simp only [i1_0, i1_1, i1_4, i1_7, i1_10, i1_11, i1_12, i1_15, i1_16, i1_e, sof0_gk ho, sof0_gv ho, mx_iteQ, hgh, true_and, and_true, eq_self, true_or, or_true, bi_01, mx_nl_i, mx_nl_r, mx_nl_n, mx_nl_f, mx_nl_d]
theorem k_ws0' (ho : h[a]? = some (.inr (4, sof n kk y c w))) : ev_ X d 1 [.ref a, .int sl, .int st] h Q = Q (some (.int (hgh y sl))) h := by
  simp only [i1_0, i1_1, i1_4, i1_7, i1_10, i1_11, i1_12, i1_15, i1_16, i1_e, sof4_gk ho, sof4_gv ho, mx_iteQ, hgh, true_and, and_true, eq_self, true_or, or_true, bi_01, mx_nl_i, mx_nl_r, mx_nl_n, mx_nl_f, mx_nl_d]
theorem k_ws8 (ho : h[a]? = some (.inr (8, sof n kk y c w))) : ev_ X (d + 1) 53 [.ref a, .int sl, .int st] h Q = Q (some (.int (pln sl - y))) h := by
  simp only [i53_0, i53_1, i53_2, i53_3_c0, i53_3_c1, i53_3_c2, i53_3_c4, i53_3_c6, i53_3_c8, i53_3_c9, i53_6, i53_7, i53_10, i53_11, i53_e, ob_co ho, k_ws6, sof8_gk ho, sof8_gv ho, Option.toList_some, Option.toList_none, List.nil_append, List.cons_append, true_and, and_true, eq_self, true_or, or_true, bi_01, mx_nl_i, mx_nl_r, mx_nl_n, mx_nl_f, mx_nl_d]
theorem k_ws8' (ho : h[a]? = some (.inr (2, sof n kk y c w))) : ev_ X (d + 1) 53 [.ref a, .int sl, .int st] h Q = Q (some (.int (pln sl - y))) h := by
  simp only [i53_0, i53_1, i53_2, i53_3_c0, i53_3_c1, i53_3_c2, i53_3_c4, i53_3_c6, i53_3_c8, i53_3_c9, i53_6, i53_7, i53_10, i53_11, i53_e, ob_co ho, k_ws6, sof2_gk ho, sof2_gv ho, Option.toList_some, Option.toList_none, List.nil_append, List.cons_append, true_and, and_true, eq_self, true_or, or_true, bi_01, mx_nl_i, mx_nl_r, mx_nl_n, mx_nl_f, mx_nl_d]
theorem k_ws2 (ho : h[a]? = some (.inr (2, sof n kk y c w))) : ev_ X (d + 2) 7 [.ref a, .int sl, .int st] h Q = Q (some (.int (if st < 20 then pln sl - y else pln sl - y - y))) h := by
  simp only [i7_0, i7_1, i7_2, i7_3_c0, i7_3_c1, i7_3_c2, i7_3_c4, i7_3_c6, i7_3_c8, i7_3_c9, i7_6, i7_7, i7_8, i7_10, i7_13, i7_14, i7_15, i7_18, i7_19, i7_22, i7_23, i7_e, ob_co ho, k_ws8' ho, sof2_gk ho, sof2_gv ho, mx_iteQ, Option.toList_some, Option.toList_none, List.nil_append, List.cons_append, true_and, and_true, eq_self, true_or, or_true, bi_01, mx_nl_i, mx_nl_r, mx_nl_n, mx_nl_f, mx_nl_d]
theorem k_ws1 (ho : h[a]? = some (.inr (1, sof n kk y c w))) : ev_ X (d + 1) 4 [.ref a, .int sl, .int st] h Q = Q (some (.int (if st < 60 then pln sl else pln sl - y))) h := by
  simp only [i4_0, i4_1, i4_2, i4_3_c0, i4_3_c1, i4_3_c2, i4_3_c4, i4_3_c6, i4_3_c8, i4_3_c9, i4_6, i4_7, i4_8, i4_10, i4_13, i4_14, i4_15, i4_18, i4_19, i4_22, i4_23, i4_e, ob_co ho, k_ws6, sof1_gk ho, sof1_gv ho, mx_iteQ, Option.toList_some, Option.toList_none, List.nil_append, List.cons_append, true_and, and_true, eq_self, true_or, or_true, bi_01, mx_nl_i, mx_nl_r, mx_nl_n, mx_nl_f, mx_nl_d]
theorem k_ws1' (ho : h[a]? = some (.inr (9, sof n kk y c w))) : ev_ X (d + 1) 4 [.ref a, .int sl, .int st] h Q = Q (some (.int (if st < 60 then pln sl else pln sl - y))) h := by
  simp only [i4_0, i4_1, i4_2, i4_3_c0, i4_3_c1, i4_3_c2, i4_3_c4, i4_3_c6, i4_3_c8, i4_3_c9, i4_6, i4_7, i4_8, i4_10, i4_13, i4_14, i4_15, i4_18, i4_19, i4_22, i4_23, i4_e, ob_co ho, k_ws6, sof9_gk ho, sof9_gv ho, mx_iteQ, Option.toList_some, Option.toList_none, List.nil_append, List.cons_append, true_and, and_true, eq_self, true_or, or_true, bi_01, mx_nl_i, mx_nl_r, mx_nl_n, mx_nl_f, mx_nl_d]
theorem k_ws9 (ho : h[a]? = some (.inr (9, sof n kk y c w))) : ev_ X (d + 2) 56 [.ref a, .int sl, .int st] h Q = Q (some (.int (if (if st < 60 then pln sl else pln sl - y) < c then c else (if st < 60 then pln sl else pln sl - y)))) h := by
  simp only [i56_0, i56_1, i56_2, i56_3_c0, i56_3_c1, i56_3_c2, i56_3_c4, i56_3_c6, i56_3_c8, i56_3_c9, i56_6, i56_7, i56_10, i56_13, i56_e, ob_co ho, k_ws1' ho, sof9_gk ho, sof9_gv ho, mx_iteQ, Option.toList_some, Option.toList_none, List.nil_append, List.cons_append, true_and, and_true, eq_self, true_or, or_true, bi_01, mx_nl_i, mx_nl_r, mx_nl_n, mx_nl_f, mx_nl_d]
theorem k_wp4 (ho : h[a]? = some (.inr (4, sof n kk y c w))) : ev_ X (d + 1) 32 [.ref a, .int sl, .int st] h Q = Q (some (.int (bi_ (decide (hgh y sl < c))))) h := by
  simp only [i32_0, i32_1, i32_2, i32_3_c0, i32_3_c1, i32_3_c2, i32_3_c4, i32_3_c6, i32_3_c8, i32_3_c9, i32_6, i32_7, i32_10, i32_13, i32_14, i32_17, i32_e, i32_18 mx_01a, i32_18 mx_01b, ob_co ho, k_ws0' ho, sof4_gk ho, sof4_gv ho, mx_iteQ, Option.toList_some, Option.toList_none, List.nil_append, List.cons_append, true_and, and_true, eq_self, true_or, or_true, bi_01, mx_nl_i, mx_nl_r, mx_nl_n, mx_nl_f, mx_nl_d]
  congr 3
  rw [bi_iten]
  simp only [Int32.not_le]
theorem k_ws4 (ho : h[a]? = some (.inr (4, sof n kk y c w))) : ev_ X (d + 2) 31 [.ref a, .int sl, .int st] h Q = Q (some (.int (if c ≤ hgh y sl then hgh y sl else 900))) h := by
  by_cases c1 : hgh y sl < c
  · have c2 : ¬ c ≤ hgh y sl := Int32.not_le.mpr c1
    simp only [i31_0, i31_1, i31_2, i31_3, i31_6, i31_9, i31_12, i31_15, i31_16, i31_17, i31_18_c0, i31_18_c1, i31_18_c2, i31_18_c4, i31_18_c6, i31_18_c8, i31_18_c9, i31_21, i31_e, ob_co ho, k_ws0' ho, k_wp4 ho, c1, c2, decide_true, show ¬ (bi_ true = 0) from by decide, if_false, Option.toList_some, Option.toList_none, List.nil_append, List.cons_append, true_and, and_true, eq_self, true_or, or_true, bi_01, mx_nl_i, mx_nl_r, mx_nl_n, mx_nl_f, mx_nl_d]
  · have c2 : c ≤ hgh y sl := Int32.not_lt.mp c1
    simp only [i31_0, i31_1, i31_2, i31_3, i31_6, i31_9, i31_12, i31_15, i31_16, i31_17, i31_18_c0, i31_18_c1, i31_18_c2, i31_18_c4, i31_18_c6, i31_18_c8, i31_18_c9, i31_21, i31_e, ob_co ho, k_ws0' ho, k_wp4 ho, c1, c2, decide_false, show (bi_ false = 0) from rfl, if_true, Option.toList_some, Option.toList_none, List.nil_append, List.cons_append, true_and, and_true, eq_self, true_or, or_true, bi_01, mx_nl_i, mx_nl_r, mx_nl_n, mx_nl_f, mx_nl_d]
theorem k_wp6 : ev_ X d 42 [.ref a, .int sl, .int st] h Q = Q (some (.int (bi_ false))) h := by
  simp only [i42_0, i42_e, i42_1 mx_01a]
  rfl
end KW
section WS
variable {y c sl st : Int32}
theorem wsk_0 : wsk 0 y c sl st = pln sl := by simp [wsk]
theorem wsk_1 : wsk 1 y c sl st = hgh y sl := by simp [wsk]
theorem wsk_2 : wsk 2 y c sl st = pln sl - y := by simp [wsk]
theorem wsk_3 : wsk 3 y c sl st = (if st < 20 then pln sl - y else pln sl - y - y) := by simp [wsk]
theorem wsk_4 : wsk 4 y c sl st = (if st < 60 then pln sl else pln sl - y) := by simp [wsk]
theorem wsk_5 : wsk 5 y c sl st = (if (if st < 60 then pln sl else pln sl - y) < c then c else (if st < 60 then pln sl else pln sl - y)) := by simp [wsk]
theorem wsk_6 : wsk 6 y c sl st = (if c ≤ hgh y sl then hgh y sl else 900) := by simp [wsk]
theorem wpk_6 : wpk 6 y c sl = decide (hgh y sl < c) := by simp [wpk]
end WS
section KD
variable {X : MXX} {d : Nat} {h : MXH} {Q : MXP} {a k : Nat} {n kk y c w sl st : Int32} {v0 v1 v2 v3 v4 : Value}
theorem d18_20 (hk : k ≤ 6) (ho : h[a]? = some (.inr (scl k, sof n kk y c w))) : ex_ X (d + 3) 18 20 [v0, v1, v2, v3, v4] [.int st, .int sl, .ref a] h Q = ex_ X (d + 3) 18 23 [v0, v1, v2, v3, v4] [.int (bi_ (wpk k y c sl))] h Q := by
  match k, hk, ho with
  | 0, _, ho =>
    replace ho : h[a]? = some (.inr (6, sof n kk y c w)) := ho
    rw [i18_20_c6 (ob_co ho), k_wp6]
    show ex_ X _ _ _ _ [.int _] h Q = ex_ X _ _ _ _ [.int _] h Q
    congr 3
  | 1, _, ho =>
    replace ho : h[a]? = some (.inr (0, sof n kk y c w)) := ho
    rw [i18_20_c0 (ob_co ho), k_wp6]
    show ex_ X _ _ _ _ [.int _] h Q = ex_ X _ _ _ _ [.int _] h Q
    congr 3
  | 2, _, ho =>
    replace ho : h[a]? = some (.inr (8, sof n kk y c w)) := ho
    rw [i18_20_c8 (ob_co ho), k_wp6]
    show ex_ X _ _ _ _ [.int _] h Q = ex_ X _ _ _ _ [.int _] h Q
    congr 3
  | 3, _, ho =>
    replace ho : h[a]? = some (.inr (2, sof n kk y c w)) := ho
    rw [i18_20_c2 (ob_co ho), k_wp6]
    show ex_ X _ _ _ _ [.int _] h Q = ex_ X _ _ _ _ [.int _] h Q
    congr 3
  | 4, _, ho =>
    replace ho : h[a]? = some (.inr (1, sof n kk y c w)) := ho
    rw [i18_20_c1 (ob_co ho), k_wp6]
    show ex_ X _ _ _ _ [.int _] h Q = ex_ X _ _ _ _ [.int _] h Q
    congr 3
  | 5, _, ho =>
    replace ho : h[a]? = some (.inr (9, sof n kk y c w)) := ho
    rw [i18_20_c9 (ob_co ho), k_wp6]
    show ex_ X _ _ _ _ [.int _] h Q = ex_ X _ _ _ _ [.int _] h Q
    congr 3
  | 6, _, ho =>
    replace ho : h[a]? = some (.inr (4, sof n kk y c w)) := ho
    rw [i18_20_c4 (ob_co ho), k_wp4 ho]
    show ex_ X _ _ _ _ [.int _] h Q = ex_ X _ _ _ _ [.int _] h Q
    rw [wpk_6]
  | n + 7, hk, _ => omega
theorem d18_50 (hk : k ≤ 6) (ho : h[a]? = some (.inr (scl k, sof n kk y c w))) : ex_ X (d + 3) 18 50 [v0, v1, v2, v3, v4] [.int st, .int sl, .ref a] h Q = ex_ X (d + 3) 18 53 [v0, v1, v2, v3, v4] [.int (wsk k y c sl st)] h Q := by
  match k, hk, ho with
  | 0, _, ho =>
    replace ho : h[a]? = some (.inr (6, sof n kk y c w)) := ho
    rw [i18_50_c6 (ob_co ho), k_ws6]
    simp only [Option.toList_some, Option.toList_none, List.nil_append, List.cons_append, wsk_0]
  | 1, _, ho =>
    replace ho : h[a]? = some (.inr (0, sof n kk y c w)) := ho
    rw [i18_50_c0 (ob_co ho), k_ws0 ho]
    simp only [Option.toList_some, Option.toList_none, List.nil_append, List.cons_append, wsk_1]
  | 2, _, ho =>
    replace ho : h[a]? = some (.inr (8, sof n kk y c w)) := ho
    rw [i18_50_c8 (ob_co ho), k_ws8 ho]
    simp only [Option.toList_some, Option.toList_none, List.nil_append, List.cons_append, wsk_2]
  | 3, _, ho =>
    replace ho : h[a]? = some (.inr (2, sof n kk y c w)) := ho
    rw [i18_50_c2 (ob_co ho), k_ws2 ho]
    simp only [Option.toList_some, Option.toList_none, List.nil_append, List.cons_append, wsk_3]
  | 4, _, ho =>
    replace ho : h[a]? = some (.inr (1, sof n kk y c w)) := ho
    rw [i18_50_c1 (ob_co ho), k_ws1 ho]
    simp only [Option.toList_some, Option.toList_none, List.nil_append, List.cons_append, wsk_4]
  | 5, _, ho =>
    replace ho : h[a]? = some (.inr (9, sof n kk y c w)) := ho
    rw [i18_50_c9 (ob_co ho), k_ws9 ho]
    simp only [Option.toList_some, Option.toList_none, List.nil_append, List.cons_append, wsk_5]
  | 6, _, ho =>
    replace ho : h[a]? = some (.inr (4, sof n kk y c w)) := ho
    rw [i18_50_c4 (ob_co ho), k_ws4 ho]
    simp only [Option.toList_some, Option.toList_none, List.nil_append, List.cons_append, wsk_6]
  | n + 7, hk, _ => omega
theorem d14_110 (hk : k ≤ 6) (ho : h[a]? = some (.inr (scl k, sof n kk y c w))) : ex_ X (d + 3) 14 110 [v0, v1, v2, v3] [.int st, .int sl, .ref a] h Q = ex_ X (d + 3) 14 113 [v0, v1, v2, v3] [.int (wsk k y c sl st)] h Q := by
  match k, hk, ho with
  | 0, _, ho =>
    replace ho : h[a]? = some (.inr (6, sof n kk y c w)) := ho
    rw [i14_110_c6 (ob_co ho), k_ws6]
    simp only [Option.toList_some, Option.toList_none, List.nil_append, List.cons_append, wsk_0]
  | 1, _, ho =>
    replace ho : h[a]? = some (.inr (0, sof n kk y c w)) := ho
    rw [i14_110_c0 (ob_co ho), k_ws0 ho]
    simp only [Option.toList_some, Option.toList_none, List.nil_append, List.cons_append, wsk_1]
  | 2, _, ho =>
    replace ho : h[a]? = some (.inr (8, sof n kk y c w)) := ho
    rw [i14_110_c8 (ob_co ho), k_ws8 ho]
    simp only [Option.toList_some, Option.toList_none, List.nil_append, List.cons_append, wsk_2]
  | 3, _, ho =>
    replace ho : h[a]? = some (.inr (2, sof n kk y c w)) := ho
    rw [i14_110_c2 (ob_co ho), k_ws2 ho]
    simp only [Option.toList_some, Option.toList_none, List.nil_append, List.cons_append, wsk_3]
  | 4, _, ho =>
    replace ho : h[a]? = some (.inr (1, sof n kk y c w)) := ho
    rw [i14_110_c1 (ob_co ho), k_ws1 ho]
    simp only [Option.toList_some, Option.toList_none, List.nil_append, List.cons_append, wsk_4]
  | 5, _, ho =>
    replace ho : h[a]? = some (.inr (9, sof n kk y c w)) := ho
    rw [i14_110_c9 (ob_co ho), k_ws9 ho]
    simp only [Option.toList_some, Option.toList_none, List.nil_append, List.cons_append, wsk_5]
  | 6, _, ho =>
    replace ho : h[a]? = some (.inr (4, sof n kk y c w)) := ho
    rw [i14_110_c4 (ob_co ho), k_ws4 ho]
    simp only [Option.toList_some, Option.toList_none, List.nil_append, List.cons_append, wsk_6]
  | n + 7, hk, _ => omega
end KD
