theorem RW.ga {h : MXH} {v : Nat → Int32} {A : Nat → Nat → Int32} (r : RW h v A) {ai : Nat} (hi : ai < 2) : h[97 + ai]? = some (.inl (0, 280, .inl (A ai))) := by
  match ai, hi with
  | 0, _ => exact r.g0
  | 1, _ => exact r.g1
  | n + 2, h => omega
theorem RW.sa {h : MXH} {v f : Nat → Int32} {A : Nat → Nat → Int32} (r : RW h v A) {ai : Nat} (hi : ai < 2) : RW (h.set (97 + ai) (.inl (0, 280, .inl f))) v (up2 A ai f) := by
  match ai, hi with
  | 0, _ => exact r.s0
  | 1, _ => exact r.s1
  | n + 2, h => omega
def my_ (G : Nat → Int32 → Int32 → Int32 → Int32 → Int32) (m : Nat → Int32) (s : Nat) (p : Int32) : Bool := decide (m 11 = 1 ∨ m (20 + 8 * s + 6) < 0 ∨ ¬ G 0 p (m (20 + 8 * s + 6)) (m 0) (m 7) = 0)
def as_ (G : Nat → Int32 → Int32 → Int32 → Int32 → Int32) (m : Nat → Int32) (s : Nat) : Int32 := if an_ m s = true ∨ my_ G m s (hd_ (wd_ m s) 0 999) = true then hd_ (wd_ m s) 0 999 else m (20 + 8 * s + 6)
section R5
variable {X : MXX} {d : Nat} {h : MXH} {Q : MXP} {v : Nat → Int32} {A : Nat → Nat → Int32}
theorem mx_k0 : mx_in 0 280 = true ∧ mx_in 1 280 = true ∧ mx_in 2 280 = true ∧ mx_in 3 280 = true ∧ mx_in 7 280 = true ∧ mx_in 8 280 = true ∧ mx_in 9 280 = true ∧ mx_in 10 280 = true ∧ mx_in 11 280 = true := by decide
theorem mx_t0 : (0 : Int32).toNatClampNeg = 0 ∧ (1 : Int32).toNatClampNeg = 1 ∧ (2 : Int32).toNatClampNeg = 2 ∧ (3 : Int32).toNatClampNeg = 3 ∧ (7 : Int32).toNatClampNeg = 7 ∧ (8 : Int32).toNatClampNeg = 8 ∧ (9 : Int32).toNatClampNeg = 9 ∧ (10 : Int32).toNatClampNeg = 10 ∧ (11 : Int32).toNatClampNeg = 11 := by decide
theorem c_mayAsk (r : RW h v A) (ht : TO (A 0) 0) {ai s : Nat} (hi : ai < 2) (hs : s < 6) {p : Int32} (k : ∀ h' A', RW h' v A' → FR h h' → SC A A' → Q (some (.int (bi_ (my_ (G_ (A 0)) (A ai) s p)))) h') : ev_ X (d + 3) 153 [.ref 96, .ref (97 + ai), .int (nI s), .int p] h Q := by
  have ha := r.ga hi
  by_cases c1 : A ai 11 = 1
  · have k2 := k h A r (FR.rf h) (fun _ _ _ => rfl)
    simp only [my_, c1, true_or, decide_true] at k2
    simp only [i153_0, i153_1, i153_2, i153_4, i153_7, i153_9, i153_10, i153_12, i153_13, i153_14, i153_17, i153_19, i153_22, i153_23, i153_24, i153_25, i153_27, i153_28, i153_29, i153_30, i153_31, i153_33, i153_34, i153_37, i153_40, i153_41, i153_44, i153_45, i153_e, c_se6 ha hs, ar_ik ha, ar_ia ha, mx_k0, mx_t0, c1, if_true, Option.toList_some, Option.toList_none, List.nil_append, List.cons_append, true_and, and_true, eq_self, true_or, or_true, bi_01, mx_nl_i, mx_nl_r, mx_nl_n, mx_nl_f, mx_nl_d]
    exact k2
  · by_cases c2 : A ai (20 + 8 * s + 6) < 0
    · have k2 := k h A r (FR.rf h) (fun _ _ _ => rfl)
      simp only [my_, c2, true_or, or_true, decide_true] at k2
      simp only [i153_0, i153_1, i153_2, i153_4, i153_7, i153_9, i153_10, i153_12, i153_13, i153_14, i153_17, i153_19, i153_22, i153_23, i153_24, i153_25, i153_27, i153_28, i153_29, i153_30, i153_31, i153_33, i153_34, i153_37, i153_40, i153_41, i153_44, i153_45, i153_e, c_se6 ha hs, ar_ik ha, ar_ia ha, mx_k0, mx_t0, c1, c2, if_true, if_false, Option.toList_some, Option.toList_none, List.nil_append, List.cons_append, true_and, and_true, eq_self, true_or, or_true, bi_01, mx_nl_i, mx_nl_r, mx_nl_n, mx_nl_f, mx_nl_d]
      exact k2
    · simp only [i153_0, i153_1, i153_2, i153_4, i153_7, i153_9, i153_10, i153_12, i153_13, i153_14, i153_17, i153_19, i153_22, i153_23, i153_24, i153_25, i153_27, i153_28, i153_29, i153_30, i153_31, i153_33, i153_34, i153_37, i153_40, i153_41, i153_44, i153_45, i153_e, c_se6 ha hs, ar_ik ha, ar_ia ha, mx_k0, mx_t0, c1, c2, if_true, if_false, ob_co r.o, Option.toList_some, Option.toList_none, List.nil_append, List.cons_append, true_and, and_true, eq_self, true_or, or_true, bi_01, mx_nl_i, mx_nl_r, mx_nl_n, mx_nl_f, mx_nl_d]
      refine c_givesOf r (u := 0) (by decide) ht (fun h' A' r' fr sc => ?_)
      have k2 := k h' A' r' fr sc
      simp only [my_, c1, c2, false_or] at k2
      by_cases c3 : G_ (A 0) 0 p (A ai (20 + 8 * s + 6)) (A ai 0) (A ai 7) = 0
      · simp only [c3, not_true_eq_false, decide_false] at k2
        simp only [i153_0, i153_1, i153_2, i153_4, i153_7, i153_9, i153_10, i153_12, i153_13, i153_14, i153_17, i153_19, i153_22, i153_23, i153_24, i153_25, i153_27, i153_28, i153_29, i153_30, i153_31, i153_33, i153_34, i153_37, i153_40, i153_41, i153_44, i153_45, i153_e, c3, if_true, Option.toList_some, Option.toList_none, List.nil_append, List.cons_append, true_and, and_true, eq_self, true_or, or_true, bi_01, mx_nl_i, mx_nl_r, mx_nl_n, mx_nl_f, mx_nl_d]
        exact k2
      · simp only [c3, not_false_eq_true, decide_true] at k2
        simp only [i153_0, i153_1, i153_2, i153_4, i153_7, i153_9, i153_10, i153_12, i153_13, i153_14, i153_17, i153_19, i153_22, i153_23, i153_24, i153_25, i153_27, i153_28, i153_29, i153_30, i153_31, i153_33, i153_34, i153_37, i153_40, i153_41, i153_44, i153_45, i153_e, c3, if_false, Option.toList_some, Option.toList_none, List.nil_append, List.cons_append, true_and, and_true, eq_self, true_or, or_true, bi_01, mx_nl_i, mx_nl_r, mx_nl_n, mx_nl_f, mx_nl_d]
        exact k2
theorem c_asks (r : RW h v A) (ht : TO (A 0) 0) {ai s : Nat} (hi : ai < 2) (hs : s < 6) (k : ∀ h' A', RW h' v A' → FR h h' → SC A A' → Q (some (.int (as_ (G_ (A 0)) (A ai) s))) h') : ev_ X (d + 4) 154 [.ref 96, .ref (97 + ai), .int (nI s)] h Q := by
  have ha := r.ga hi
  simp only [i154_0, i154_1, i154_2, i154_5, i154_6, i154_9, i154_12, i154_13, i154_14, i154_15, i154_18, i154_21, i154_22, i154_23, i154_24, i154_25, i154_28, i154_31, i154_32, i154_35, i154_36, i154_37, i154_39, i154_42, i154_e, c_would ha hs, c_held, c_isAnew ha hs, c_se6 ha hs, ob_co r.o, bi_eq0, Option.toList_some, Option.toList_none, List.nil_append, List.cons_append, true_and, and_true, eq_self, true_or, or_true, bi_01, mx_nl_i, mx_nl_r, mx_nl_n, mx_nl_f, mx_nl_d]
  cases hn : an_ (A ai) s with
  | true =>
    have k2 := k h A r (FR.rf h) (fun _ _ _ => rfl)
    simp only [as_, hn, true_or, if_true] at k2
    simp only [reduceCtorEq, not_false_eq_true, if_true]
    exact k2
  | false =>
    simp only [not_true_eq_false, if_false]
    refine c_mayAsk r ht hi hs (fun h' A' r' fr sc => ?_)
    have k2 := k h' A' r' fr sc
    have e : A' ai = A ai := sc ai (by omega) (by omega)
    have ha' := r'.ga hi
    rw [e] at ha'
    simp only [i154_0, i154_1, i154_2, i154_5, i154_6, i154_9, i154_12, i154_13, i154_14, i154_15, i154_18, i154_21, i154_22, i154_23, i154_24, i154_25, i154_28, i154_31, i154_32, i154_35, i154_36, i154_37, i154_39, i154_42, i154_e, c_se6 ha' hs, bi_eq0, Option.toList_some, Option.toList_none, List.nil_append, List.cons_append, true_and, and_true, eq_self, true_or, or_true, bi_01, mx_nl_i, mx_nl_r, mx_nl_n, mx_nl_f, mx_nl_d]
    cases hm : my_ (G_ (A 0)) (A ai) s (hd_ (wd_ (A ai) s) 0 999) with
    | true =>
      simp only [as_, hn, hm, or_true, if_true] at k2
      simp only [reduceCtorEq, if_false]
      exact k2
    | false =>
      simp only [as_, hn, hm, reduceCtorEq, or_self, if_false] at k2
      simp only [if_true]
      exact k2
/-- the cheapest with a stock at which they weren't yet -/
def ck' (m wa : Nat → Int32) (s : Nat) : Prop := wa s = 0 ∧ 0 < m (20 + 8 * s + 4) ∧ 0 ≤ m (20 + 8 * s + 6)
def ch_ (m wa : Nat → Int32) : Nat → Int32
  | 0 => -1
  | n + 1 => if wa n = 0 ∧ 0 < m (20 + 8 * n + 4) ∧ 0 ≤ m (20 + 8 * n + 6) ∧ (ch_ m wa n < 0 ∨ m (20 + 8 * n + 6) < m (20 + 8 * (ch_ m wa n).toNatClampNeg + 6)) then nI n else ch_ m wa n
theorem ch_in (m wa : Nat → Int32) : ∀ n, n ≤ 6 → ch_ m wa n = -1 ∨ ∃ s, s < n ∧ ch_ m wa n = nI s ∧ wa s = 0 ∧ 0 < m (20 + 8 * s + 4) ∧ 0 ≤ m (20 + 8 * s + 6)
  | 0, _ => Or.inl rfl
  | n + 1, hn => by
    unfold ch_
    split
    · rename_i hc
      exact Or.inr ⟨n, Nat.lt_succ_self n, rfl, hc.1, hc.2.1, hc.2.2.1⟩
    · rcases ch_in m wa n (by omega) with h | ⟨s, h1, h2⟩
      · exact Or.inl h
      · exact Or.inr ⟨s, Nat.lt_succ_of_lt h1, h2⟩
set_option maxHeartbeats 1000000 in
theorem c_cheapest_l {ai ns : Nat} (r : RW h v A) (hi : ai < 2) (hns : ns ≤ 6) (hn1 : A ai 1 = nI ns) : ∀ n j (w4 : Value), j + n = ns → ex_ X (d + 1) 168 4 [.ref 96, .ref (97 + ai), .int (ch_ (A ai) (A 7) j), .int (nI j), w4] [] h Q = Q (some (.int (ch_ (A ai) (A 7) ns))) h := by
  have ha := r.ga hi
  have g7 := r.g7
  intro n
  induction n with
  | zero =>
    intro j w4 hj
    have e : j = ns := by omega
    subst e
    have hc : (nI j : Int32) ≤ nI j := Int32.le_refl _
    rw [i168_4]
    simp only [i168_0, i168_1, i168_2, i168_3, i168_5, i168_6, i168_7, i168_8, i168_11, i168_12, i168_15, i168_16, i168_17, i168_20, i168_21, i168_22, i168_23, i168_26, i168_29, i168_30, i168_31, i168_33, i168_36, i168_39, i168_40, i168_43, i168_44, i168_46, i168_48, i168_51, i168_52, i168_55, i168_56, i168_57, i168_59, i168_62, i168_63, i168_64, i168_66, i168_69, i168_72, i168_73, i168_76, i168_77, i168_78, i168_81, i168_84, i168_85, i168_e, ar_ik ha, ar_ia ha, mx_k0, mx_t0, hn1, hc, if_true, true_and, and_true, eq_self, true_or, or_true, bi_01, mx_nl_i, mx_nl_r, mx_nl_n, mx_nl_f, mx_nl_d]
  | succ n ih =>
    intro j w4 hj
    have hlt : j < 6 := by omega
    have hc : ¬ ((nI ns : Int32) ≤ nI j) := by rw [nI_leI (by omega) (by omega)]; omega
    have ih := fun w4 => ih (j + 1) w4 (by omega)
    have hch := ch_in (A ai) (A 7) j (by omega)
    simp only [ch_] at ih
    have w7 : mx_in (nI j) 6 = true := mx_inN hlt (by decide)
    rw [i168_4]
    by_cases c1 : A 7 j = 0 <;> by_cases c2 : A ai (20 + 8 * j + 4) ≤ 0 <;> by_cases c3 : A ai (20 + 8 * j + 6) < 0
    all_goals have c2' := @Int32.not_le (A ai (20 + 8 * j + 4)) 0
    all_goals have c3' := @Int32.not_lt (A ai (20 + 8 * j + 6)) 0
    all_goals simp only [c2, c3, not_true_eq_false, not_false_eq_true, true_iff, false_iff] at c2' c3'
    all_goals simp only [c1, c2', c3', true_and, false_and, and_false, if_false] at ih
    all_goals simp only [i168_0, i168_1, i168_2, i168_3, i168_5, i168_6, i168_7, i168_8, i168_11, i168_12, i168_15, i168_16, i168_17, i168_20, i168_21, i168_22, i168_23, i168_26, i168_29, i168_30, i168_31, i168_33, i168_36, i168_39, i168_40, i168_43, i168_44, i168_46, i168_48, i168_51, i168_52, i168_55, i168_56, i168_57, i168_59, i168_62, i168_63, i168_64, i168_66, i168_69, i168_72, i168_73, i168_76, i168_77, i168_78, i168_81, i168_84, i168_85, i168_e, ar_ik ha, ar_ia ha, mx_k0, mx_t0, hn1, hc, mo_gk r.o, mo_gv r.o, br_bk g7, br_ba g7, w7, nI_clamp (show j < 2 ^ 31 by omega), c1, c2, c3, c_se4 ha hlt, c_se6 ha hlt, if_true, if_false, not_true_eq_false, not_false_eq_true, show ¬ ((1 : Int32) = 0) from by decide, Option.toList_some, Option.toList_none, List.nil_append, List.cons_append, true_and, and_true, eq_self, true_or, or_true, bi_01, mx_nl_i, mx_nl_r, mx_nl_n, mx_nl_f, mx_nl_d, nI_1]
    all_goals first | exact ih _ | skip
    rcases hch with he | ⟨s, hs, he, -⟩
    · rw [he] at ih ⊢
      simp only [show ((-1 : Int32) < 0) from by decide, true_or, if_true] at ih ⊢
      exact ih _
    · rw [he] at ih ⊢
      have hneg : ¬ (nI s : Int32) < 0 := nI_pos (by omega)
      simp only [hneg, false_or, nI_clamp (show s < 2 ^ 31 by omega), if_false] at ih ⊢
      simp only [c_se6 ha (show s < 6 by omega), i168_0, i168_1, i168_2, i168_3, i168_5, i168_6, i168_7, i168_8, i168_11, i168_12, i168_15, i168_16, i168_17, i168_20, i168_21, i168_22, i168_23, i168_26, i168_29, i168_30, i168_31, i168_33, i168_36, i168_39, i168_40, i168_43, i168_44, i168_46, i168_48, i168_51, i168_52, i168_55, i168_56, i168_57, i168_59, i168_62, i168_63, i168_64, i168_66, i168_69, i168_72, i168_73, i168_76, i168_77, i168_78, i168_81, i168_84, i168_85, i168_e, Option.toList_some, Option.toList_none, List.nil_append, List.cons_append, true_and, and_true, eq_self, true_or, or_true, bi_01, mx_nl_i, mx_nl_r, mx_nl_n, mx_nl_f, mx_nl_d, nI_1]
      by_cases c4 : A ai (20 + 8 * s + 6) ≤ A ai (20 + 8 * j + 6)
      · have c4' := Int32.not_lt.mpr c4
        simp only [c4, c4', if_true, if_false] at ih ⊢
        exact ih _
      · have c4' := Int32.not_le.mp c4
        simp only [c4, c4', if_true, if_false] at ih ⊢
        exact ih _
theorem c_cheapest {ai ns : Nat} (r : RW h v A) (hi : ai < 2) (hns : ns ≤ 6) (hn1 : A ai 1 = nI ns) : ev_ X (d + 1) 168 [.ref 96, .ref (97 + ai)] h Q = Q (some (.int (ch_ (A ai) (A 7) ns))) h := by
  have h0 := c_cheapest_l (X := X) (d := d) (Q := Q) r hi hns hn1 ns 0 (.double 0) (by omega)
  simp only [i168_0, i168_1, i168_2, i168_3, i168_5, i168_6, i168_7, i168_8, i168_11, i168_12, i168_15, i168_16, i168_17, i168_20, i168_21, i168_22, i168_23, i168_26, i168_29, i168_30, i168_31, i168_33, i168_36, i168_39, i168_40, i168_43, i168_44, i168_46, i168_48, i168_51, i168_52, i168_55, i168_56, i168_57, i168_59, i168_62, i168_63, i168_64, i168_66, i168_69, i168_72, i168_73, i168_76, i168_77, i168_78, i168_81, i168_84, i168_85, i168_e, true_and, and_true, eq_self, true_or, or_true, bi_01, mx_nl_i, mx_nl_r, mx_nl_n, mx_nl_f, mx_nl_d]
  exact h0
end R5
