/-! the reference's call of text -/
def rdx (A : Nat → Nat → Int32) (n u : Nat) : Option RDs := rd (TT_ A) n (decide (u = 0)) 611 0 0 0 (A 5) 0
def txd (m : Nat → Int32) (u n : Nat) (c : Nat → Int32) : Nat → Int32 := fun j => if 126 + 50 * u ≤ j ∧ j < 126 + 50 * u + n then c (j - (126 + 50 * u)) else if j = 104 + u then nI n else m j
def tx1 (v : Nat → Int32) (A : Nat → Nat → Int32) (n u : Nat) : Option RDs → PR
  | some (b, a', c', n') => if b = true ∧ a' = n then (1, v, up2 A 0 (txd (upd (A 0) 9 0) u n' c')) else (-10 - nI a', v, up2 A 0 (upd (A 0) 9 0))
  | none => er_ v A 1
def sp_text (v : Nat → Int32) (A : Nat → Nat → Int32) (u : Int32) : PR := if 0 ≤ u ∧ u ≤ 1 then tx1 v A (A 0 9).toNatClampNeg u.toNatClampNeg (rdx A (A 0 9).toNatClampNeg u.toNatClampNeg) else er_ v A 1
section RL
variable {X : MXX} {d : Nat} {h : MXH} {Q : MXP} {v : Nat → Int32} {A : Nat → Nat → Int32} {N : Nat}
def vRd (v : Nat → Int32) (N : Nat) (lw : Bool) : Nat → Int32 := upd (upd (upd (upd (upd (upd (upd v 5 226) 6 0) 7 (nI N)) 8 (-1)) 9 0) 13 0) 10 (bi_ lw)
set_option maxHeartbeats 1000000 in
theorem c_reads (r : RW h v A) {u : Nat} (hu : u < 2) (hN : N ≤ 50) {b : Bool} {a' n' F : Nat} {c' : Nat → Int32} (hr : rd (TT_ A) N (decide (u = 0)) F 0 0 0 (A 5) 0 = some (b, a', c', n')) : ev_ X (d + 52) 143 [.ref 96, .int 226, .int (nI N), .int (nI u)] h Q = Q none (PH (h.set 96 (.inr (12, mof (vRd v N (decide (u = 0)))))) (vRd v N (decide (u = 0))) c' (nI a') (flt (b && decide (a' = N)) a') (nI 0) (nI n')) := by
  have os : ∀ w, (h.set 96 (.inr (12, mof w)))[96]? = some (.inr (12, mof w)) := fun w => mx_gss (by rw [r.o]; rfl)
  have r1 : RW (h.set 96 (.inr (12, mof (vRd v N (decide (u = 0)))))) (vRd v N (decide (u = 0))) A := r.setv
  have po : PO (vRd v N (decide (u = 0))) N (decide (u = 0)) := ⟨rfl, rfl, rfl, hN⟩
  have eP : PH (h.set 96 (.inr (12, mof (vRd v N (decide (u = 0)))))) (vRd v N (decide (u = 0))) (A 5) (nI 0) (-1) (nI 0) (nI 0) = h.set 96 (.inr (12, mof (vRd v N (decide (u = 0))))) := by
    unfold PH
    rw [mx_setid r1.g5, List.set_set]
    rfl
  have main := fun Q' => rd_ref (X := X) r1 po F 0 0 0 (A 5) 0 b a' c' n' hr (by decide) (by omega) (by omega) (by decide) (d + 51) .null Q' (by rw [if_pos (by decide)]; omega)
  rw [eP] at main
  have hin := rd_in _ _ _ _ _ _ _ _ _ _ hr (by decide) (Nat.zero_le N)
  have pre : ev_ X (d + 52) 143 [.ref 96, .int 226, .int (nI N), .int (nI u)] h Q = GO X 0 .null (d + 51) (h.set 96 (.inr (12, mof (vRd v N (decide (u = 0)))))) (fun q h' => ex_ X (d + 52) 143 47 [.ref 96, .int 226, .int (nI N), .int (nI u)] (q.toList ++ []) h' Q) := by
    rcases (show u = 0 ∨ u = 1 by omega) with e | e
    · have e0 : decide (u = 0) = true := by rw [e]; rfl
      have e1 : (nI u : Int32) = 0 := by rw [e]; rfl
      rw [e0]
      simp only [GO, vRd, i143_0, i143_1, i143_2, i143_5, i143_6, i143_7, i143_10, i143_11, i143_12, i143_15, i143_16, i143_17, i143_20, i143_21, i143_22, i143_25, i143_26, i143_27, i143_30, i143_31, i143_32, i143_35, i143_36, i143_39, i143_43, i143_44, i143_48, i143_51, i143_54, i143_55, i143_58, i143_59, i143_62, i143_65, i143_66, i143_69, i143_e, c_in, c_isAhead, c_isSheet, c_areRight, bi_eq0, decide_true, decide_false, and_self, if_true, if_false, reduceCtorEq, not_true_eq_false, not_false_eq_true, mx_k0, mx_t0, fa_wide_le, Option.toList_some, Option.toList_none, List.nil_append, List.cons_append, true_and, and_true, eq_self, true_or, or_true, bi_01, mx_nl_i, mx_nl_r, mx_nl_n, mx_nl_f, mx_nl_d, lj0a, lj0b, lj1a, lj1b, lj2a, lj2b, lj3a, lj3b, lj4a, lj4b, lj5a, lj5b, lj6a, lj6b, lj7a, lj7b, lj8a, lj8b, lj9a, lj9b, lj10a, lj10b, lj11a, lj11b, lj12a, lj12b, lj13a, lj13b, lj14a, lj14b, lj15a, lj15b, lj16a, lj16b, lj17a, lj17b, lj18a, lj18b, lj19a, lj19b, mo_pk5 r.o, mo_pf5 r.o, mo_pk6 (os _), mo_pf6 (os _), mo_pk7 (os _), mo_pf7 (os _), mo_pk8 (os _), mo_pf8 (os _), mo_pk9 (os _), mo_pf9 (os _), mo_pk13 (os _), mo_pf13 (os _), List.set_set, e1]
      rw [show (1 : Int32) = bi_ true from rfl]
      simp only [mo_pk10 (os _), mo_pf10 (os _), List.set_set, i143_0, i143_1, i143_2, i143_5, i143_6, i143_7, i143_10, i143_11, i143_12, i143_15, i143_16, i143_17, i143_20, i143_21, i143_22, i143_25, i143_26, i143_27, i143_30, i143_31, i143_32, i143_35, i143_36, i143_39, i143_40, i143_43, i143_44, i143_48, i143_51, i143_54, i143_55, i143_58, i143_59, i143_62, i143_65, i143_66, i143_69, i143_e, c_in, c_isAhead, c_isSheet, c_areRight, bi_eq0, decide_true, decide_false, and_self, if_true, if_false, reduceCtorEq, not_true_eq_false, not_false_eq_true, mx_k0, mx_t0, fa_wide_le, Option.toList_some, Option.toList_none, List.nil_append, List.cons_append, true_and, and_true, eq_self, true_or, or_true, bi_01, mx_nl_i, mx_nl_r, mx_nl_n, mx_nl_f, mx_nl_d, lj0a, lj0b, lj1a, lj1b, lj2a, lj2b, lj3a, lj3b, lj4a, lj4b, lj5a, lj5b, lj6a, lj6b, lj7a, lj7b, lj8a, lj8b, lj9a, lj9b, lj10a, lj10b, lj11a, lj11b, lj12a, lj12b, lj13a, lj13b, lj14a, lj14b, lj15a, lj15b, lj16a, lj16b, lj17a, lj17b, lj18a, lj18b, lj19a, lj19b, ob_co (os _)]
    · have e0 : decide (u = 0) = false := by rw [e]; rfl
      have e1 : ¬ (nI u : Int32) = 0 := by rw [e]; decide
      rw [e0]
      simp only [GO, vRd, i143_0, i143_1, i143_2, i143_5, i143_6, i143_7, i143_10, i143_11, i143_12, i143_15, i143_16, i143_17, i143_20, i143_21, i143_22, i143_25, i143_26, i143_27, i143_30, i143_31, i143_32, i143_35, i143_36, i143_39, i143_43, i143_44, i143_48, i143_51, i143_54, i143_55, i143_58, i143_59, i143_62, i143_65, i143_66, i143_69, i143_e, c_in, c_isAhead, c_isSheet, c_areRight, bi_eq0, decide_true, decide_false, and_self, if_true, if_false, reduceCtorEq, not_true_eq_false, not_false_eq_true, mx_k0, mx_t0, fa_wide_le, Option.toList_some, Option.toList_none, List.nil_append, List.cons_append, true_and, and_true, eq_self, true_or, or_true, bi_01, mx_nl_i, mx_nl_r, mx_nl_n, mx_nl_f, mx_nl_d, lj0a, lj0b, lj1a, lj1b, lj2a, lj2b, lj3a, lj3b, lj4a, lj4b, lj5a, lj5b, lj6a, lj6b, lj7a, lj7b, lj8a, lj8b, lj9a, lj9b, lj10a, lj10b, lj11a, lj11b, lj12a, lj12b, lj13a, lj13b, lj14a, lj14b, lj15a, lj15b, lj16a, lj16b, lj17a, lj17b, lj18a, lj18b, lj19a, lj19b, mo_pk5 r.o, mo_pf5 r.o, mo_pk6 (os _), mo_pf6 (os _), mo_pk7 (os _), mo_pf7 (os _), mo_pk8 (os _), mo_pf8 (os _), mo_pk9 (os _), mo_pf9 (os _), mo_pk13 (os _), mo_pf13 (os _), List.set_set, e1]
      rw [show ex_ X (d + 52) 143 40 [.ref 96, .int 226, .int (nI N), .int (nI u)] [.int 0, .ref 96] (h.set 96 (.inr (12, mof (upd (upd (upd (upd (upd (upd v 5 226) 6 0) 7 (nI N)) 8 (-1)) 9 0) 13 0)))) Q = ex_ X (d + 52) 143 40 [.ref 96, .int 226, .int (nI N), .int (nI u)] [.int (bi_ false), .ref 96] (h.set 96 (.inr (12, mof (upd (upd (upd (upd (upd (upd v 5 226) 6 0) 7 (nI N)) 8 (-1)) 9 0) 13 0)))) Q from rfl]
      simp only [mo_pk10 (os _), mo_pf10 (os _), List.set_set, i143_0, i143_1, i143_2, i143_5, i143_6, i143_7, i143_10, i143_11, i143_12, i143_15, i143_16, i143_17, i143_20, i143_21, i143_22, i143_25, i143_26, i143_27, i143_30, i143_31, i143_32, i143_35, i143_36, i143_39, i143_40, i143_43, i143_44, i143_48, i143_51, i143_54, i143_55, i143_58, i143_59, i143_62, i143_65, i143_66, i143_69, i143_e, c_in, c_isAhead, c_isSheet, c_areRight, bi_eq0, decide_true, decide_false, and_self, if_true, if_false, reduceCtorEq, not_true_eq_false, not_false_eq_true, mx_k0, mx_t0, fa_wide_le, Option.toList_some, Option.toList_none, List.nil_append, List.cons_append, true_and, and_true, eq_self, true_or, or_true, bi_01, mx_nl_i, mx_nl_r, mx_nl_n, mx_nl_f, mx_nl_d, lj0a, lj0b, lj1a, lj1b, lj2a, lj2b, lj3a, lj3b, lj4a, lj4b, lj5a, lj5b, lj6a, lj6b, lj7a, lj7b, lj8a, lj8b, lj9a, lj9b, lj10a, lj10b, lj11a, lj11b, lj12a, lj12b, lj13a, lj13b, lj14a, lj14b, lj15a, lj15b, lj16a, lj16b, lj17a, lj17b, lj18a, lj18b, lj19a, lj19b, ob_co (os _)]
  rw [pre, main]
  show ex_ X (d + 52) 143 47 [.ref 96, .int 226, .int (nI N), .int (nI u)] (([] : List Value) ++ []) _ Q = _
  cases b with
  | true =>
    by_cases q : a' = N
    · subst q
      have hc : (nI a' : Int32) ≤ nI a' := Int32.le_refl _
      simp only [i143_0, i143_1, i143_2, i143_5, i143_6, i143_7, i143_10, i143_11, i143_12, i143_15, i143_16, i143_17, i143_20, i143_21, i143_22, i143_25, i143_26, i143_27, i143_30, i143_31, i143_32, i143_35, i143_36, i143_39, i143_40, i143_43, i143_44, i143_47, i143_48, i143_51, i143_54, i143_55, i143_58, i143_59, i143_62, i143_65, i143_66, i143_69, i143_e, c_in, c_isAhead, c_isSheet, c_areRight, bi_eq0, decide_true, decide_false, and_self, if_true, if_false, reduceCtorEq, not_true_eq_false, not_false_eq_true, mx_k0, mx_t0, fa_wide_le, Option.toList_some, Option.toList_none, List.nil_append, List.cons_append, true_and, and_true, eq_self, true_or, or_true, bi_01, mx_nl_i, mx_nl_r, mx_nl_n, mx_nl_f, mx_nl_d, lj0a, lj0b, lj1a, lj1b, lj2a, lj2b, lj3a, lj3b, lj4a, lj4b, lj5a, lj5b, lj6a, lj6b, lj7a, lj7b, lj8a, lj8b, lj9a, lj9b, lj10a, lj10b, lj11a, lj11b, lj12a, lj12b, lj13a, lj13b, lj14a, lj14b, lj15a, lj15b, lj16a, lj16b, lj17a, lj17b, lj18a, lj18b, lj19a, lj19b, mo_gk (ph_o r1), mo_gv (ph_o r1), ph_8, ph_6, ph_7, flt, show ¬ ((0 : Int32) ≤ -1) from by decide, show vRd v a' (decide (u = 0)) 7 = nI a' from rfl, hc, Bool.true_and, decide_true]
    · have hc : ¬ ((nI N : Int32) ≤ nI a') := by rw [nI_leI (by omega) (by omega)]; omega
      simp only [i143_0, i143_1, i143_2, i143_5, i143_6, i143_7, i143_10, i143_11, i143_12, i143_15, i143_16, i143_17, i143_20, i143_21, i143_22, i143_25, i143_26, i143_27, i143_30, i143_31, i143_32, i143_35, i143_36, i143_39, i143_40, i143_43, i143_44, i143_47, i143_48, i143_51, i143_54, i143_55, i143_58, i143_59, i143_62, i143_65, i143_66, i143_69, i143_e, c_in, c_isAhead, c_isSheet, c_areRight, bi_eq0, decide_true, decide_false, and_self, if_true, if_false, reduceCtorEq, not_true_eq_false, not_false_eq_true, mx_k0, mx_t0, fa_wide_le, Option.toList_some, Option.toList_none, List.nil_append, List.cons_append, true_and, and_true, eq_self, true_or, or_true, bi_01, mx_nl_i, mx_nl_r, mx_nl_n, mx_nl_f, mx_nl_d, lj0a, lj0b, lj1a, lj1b, lj2a, lj2b, lj3a, lj3b, lj4a, lj4b, lj5a, lj5b, lj6a, lj6b, lj7a, lj7b, lj8a, lj8b, lj9a, lj9b, lj10a, lj10b, lj11a, lj11b, lj12a, lj12b, lj13a, lj13b, lj14a, lj14b, lj15a, lj15b, lj16a, lj16b, lj17a, lj17b, lj18a, lj18b, lj19a, lj19b, mo_gk (ph_o r1), mo_gv (ph_o r1), ob_co (ph_o r1), ph_8, ph_6, ph_7, flt, show ¬ ((0 : Int32) ≤ -1) from by decide, show vRd v N (decide (u = 0)) 7 = nI N from rfl, hc, c_wrong r1, q, Bool.and_false, decide_false]
  | false =>
    have hp : (0 : Int32) ≤ nI a' := nI_pos' (by omega)
    simp only [i143_0, i143_1, i143_2, i143_5, i143_6, i143_7, i143_10, i143_11, i143_12, i143_15, i143_16, i143_17, i143_20, i143_21, i143_22, i143_25, i143_26, i143_27, i143_30, i143_31, i143_32, i143_35, i143_36, i143_39, i143_40, i143_43, i143_44, i143_47, i143_48, i143_51, i143_54, i143_55, i143_58, i143_59, i143_62, i143_65, i143_66, i143_69, i143_e, c_in, c_isAhead, c_isSheet, c_areRight, bi_eq0, decide_true, decide_false, and_self, if_true, if_false, reduceCtorEq, not_true_eq_false, not_false_eq_true, mx_k0, mx_t0, fa_wide_le, Option.toList_some, Option.toList_none, List.nil_append, List.cons_append, true_and, and_true, eq_self, true_or, or_true, bi_01, mx_nl_i, mx_nl_r, mx_nl_n, mx_nl_f, mx_nl_d, lj0a, lj0b, lj1a, lj1b, lj2a, lj2b, lj3a, lj3b, lj4a, lj4b, lj5a, lj5b, lj6a, lj6b, lj7a, lj7b, lj8a, lj8b, lj9a, lj9b, lj10a, lj10b, lj11a, lj11b, lj12a, lj12b, lj13a, lj13b, lj14a, lj14b, lj15a, lj15b, lj16a, lj16b, lj17a, lj17b, lj18a, lj18b, lj19a, lj19b, mo_gk (ph_o r1), mo_gv (ph_o r1), ph_8, flt, hp, Bool.false_and]
def txe (m : Nat → Int32) (u n k : Nat) (c : Nat → Int32) : Nat → Int32 := fun j => if 126 + 50 * u ≤ j ∧ j < 126 + 50 * u + k then c (j - (126 + 50 * u)) else if j = 104 + u then nI n else m j
theorem txe_s {m c : Nat → Int32} {u n k : Nat} : upd (txe m u n k c) (126 + 50 * u + k) (c k) = txe m u n (k + 1) c := by
  funext j
  unfold upd txe
  by_cases e : j = 126 + 50 * u + k
  · rw [if_pos e, if_pos (by omega), e]
    congr 1
    omega
  · rw [if_neg e]
    by_cases e2 : 126 + 50 * u ≤ j ∧ j < 126 + 50 * u + k
    · rw [if_pos e2, if_pos (by omega)]
    · rw [if_neg e2]
      by_cases e3 : 126 + 50 * u ≤ j ∧ j < 126 + 50 * u + (k + 1)
      · omega
      · rw [if_neg e3]
theorem txe_0 {m c : Nat → Int32} {u n : Nat} : upd m (104 + u) (nI n) = txe m u n 0 c := by
  funext j
  unfold upd txe
  rw [if_neg (show ¬ (126 + 50 * u ≤ j ∧ j < 126 + 50 * u + 0) by omega)]
theorem c_text_l (r : RW h v A) {u n' : Nat} {m : Nat → Int32} {w2 : Value} (hu : u < 2) (hn : n' ≤ 50) (e13 : v 13 = nI n') (hw : mx_nl w2 = true) : ∀ n k, k + n = n' → ex_ X d 147 71 [.ref 96, .int (nI u), w2, .int (nI k)] [] (h.set 97 (.inl (0, 280, .inl (txe m u n' k (A 5))))) Q = Q (some (.int 1)) (h.set 97 (.inl (0, 280, .inl (txe m u n' n' (A 5))))) := by
  intro n
  induction n with
  | zero =>
    intro k hk
    have e : k = n' := by omega
    subst e
    have r1 := r.s0 (f := txe m u k k (A 5))
    rw [i147_71]
    simp only [i147_0, i147_1, i147_2, i147_3, i147_4, i147_7, i147_10, i147_11, i147_12, i147_15, i147_16, i147_17, i147_20, i147_22, i147_23, i147_24, i147_25, i147_28, i147_30, i147_31, i147_32, i147_33, i147_36, i147_37, i147_38, i147_41, i147_42, i147_45, i147_48, i147_50, i147_51, i147_54, i147_55, i147_56, i147_57, i147_60, i147_62, i147_63, i147_64, i147_65, i147_68, i147_69, i147_70, i147_72, i147_73, i147_76, i147_79, i147_80, i147_83, i147_85, i147_87, i147_88, i147_89, i147_90, i147_91, i147_92, i147_93, i147_96, i147_97, i147_98, i147_99, i147_102, i147_105, i147_106, i147_e, c_in, c_isAhead, c_isSheet, c_areRight, bi_eq0, decide_true, decide_false, and_self, if_true, if_false, reduceCtorEq, not_true_eq_false, not_false_eq_true, mx_k0, mx_t0, fa_wide_le, Option.toList_some, Option.toList_none, List.nil_append, List.cons_append, true_and, and_true, eq_self, true_or, or_true, bi_01, mx_nl_i, mx_nl_r, mx_nl_n, mx_nl_f, mx_nl_d, lj0a, lj0b, lj1a, lj1b, lj2a, lj2b, lj3a, lj3b, lj4a, lj4b, lj5a, lj5b, lj6a, lj6b, lj7a, lj7b, lj8a, lj8b, lj9a, lj9b, lj10a, lj10b, lj11a, lj11b, lj12a, lj12b, lj13a, lj13b, lj14a, lj14b, lj15a, lj15b, lj16a, lj16b, lj17a, lj17b, lj18a, lj18b, lj19a, lj19b, mo_gk r1.o, mo_gv r1.o, e13, Int32.le_refl]
  | succ n ih =>
    intro k hk
    have hc : ¬ ((nI n' : Int32) ≤ nI k) := by rw [nI_leI (by omega) (by omega)]; omega
    have r1 := r.s0 (f := txe m u n' k (A 5))
    have g0 := r1.g0
    have g5 := r1.g5
    rw [up2_s] at g0
    rw [up2_n (by decide)] at g5
    have x0 : (126 + 50 * nI u + nI k : Int32) = nI (126 + 50 * u + k) := mx_ix 126 50 u k
    rw [i147_71]
    simp only [i147_0, i147_1, i147_2, i147_3, i147_4, i147_7, i147_10, i147_11, i147_12, i147_15, i147_16, i147_17, i147_20, i147_22, i147_23, i147_24, i147_25, i147_28, i147_30, i147_31, i147_32, i147_33, i147_36, i147_37, i147_38, i147_41, i147_42, i147_45, i147_48, i147_50, i147_51, i147_54, i147_55, i147_56, i147_57, i147_60, i147_62, i147_63, i147_64, i147_65, i147_68, i147_69, i147_70, i147_72, i147_73, i147_76, i147_79, i147_80, i147_83, i147_85, i147_87, i147_88, i147_89, i147_90, i147_91, i147_92, i147_93, i147_96, i147_97, i147_98, i147_99, i147_102, i147_105, i147_106, i147_e, c_in, c_isAhead, c_isSheet, c_areRight, bi_eq0, decide_true, decide_false, and_self, if_true, if_false, reduceCtorEq, not_true_eq_false, not_false_eq_true, mx_k0, mx_t0, fa_wide_le, Option.toList_some, Option.toList_none, List.nil_append, List.cons_append, true_and, and_true, eq_self, true_or, or_true, bi_01, mx_nl_i, mx_nl_r, mx_nl_n, mx_nl_f, mx_nl_d, lj0a, lj0b, lj1a, lj1b, lj2a, lj2b, lj3a, lj3b, lj4a, lj4b, lj5a, lj5b, lj6a, lj6b, lj7a, lj7b, lj8a, lj8b, lj9a, lj9b, lj10a, lj10b, lj11a, lj11b, lj12a, lj12b, lj13a, lj13b, lj14a, lj14b, lj15a, lj15b, lj16a, lj16b, lj17a, lj17b, lj18a, lj18b, lj19a, lj19b, mo_gk r1.o, mo_gv r1.o, e13, hc, hw, ar_ik g0, ar_is g0, ar_ik g5, ar_ia g5, x0, mx_inN (show 126 + 50 * u + k < 280 by omega) (by decide), nI_clamp (show 126 + 50 * u + k < 2 ^ 31 by omega), mx_inN (show k < 60 by omega) (by decide), nI_clamp (show k < 2 ^ 31 by omega), List.set_set, txe_s, nI_1]
    exact ih (k + 1) (by omega)
set_option maxHeartbeats 1000000 in
theorem r_text (r : RW h v A) (ok : OK v A) {u : Int32} (k : KR h (sp_text v A u) Q) : ev_ X (d + 60) 147 [.ref 96, .int u] h Q := by
  obtain ⟨tp, htp, e9⟩ := ok.1.2.2.2.2.1
  unfold sp_text at k
  by_cases c1 : (0 ≤ u ∧ u ≤ 1)
  case neg =>
    rw [if_neg c1] at k
    simp only [i147_0, i147_1, i147_2, i147_3, i147_4, i147_7, i147_10, i147_11, i147_12, i147_15, i147_16, i147_17, i147_20, i147_22, i147_23, i147_24, i147_25, i147_28, i147_30, i147_31, i147_32, i147_33, i147_36, i147_37, i147_38, i147_41, i147_42, i147_45, i147_48, i147_50, i147_51, i147_54, i147_55, i147_56, i147_57, i147_60, i147_62, i147_63, i147_64, i147_65, i147_68, i147_69, i147_70, i147_72, i147_73, i147_76, i147_79, i147_80, i147_83, i147_85, i147_87, i147_88, i147_89, i147_90, i147_91, i147_92, i147_93, i147_96, i147_97, i147_98, i147_99, i147_102, i147_105, i147_106, i147_e, c_in, c_isAhead, c_isSheet, c_areRight, bi_eq0, decide_true, decide_false, and_self, if_true, if_false, reduceCtorEq, not_true_eq_false, not_false_eq_true, mx_k0, mx_t0, fa_wide_le, Option.toList_some, Option.toList_none, List.nil_append, List.cons_append, true_and, and_true, eq_self, true_or, or_true, bi_01, mx_nl_i, mx_nl_r, mx_nl_n, mx_nl_f, mx_nl_d, lj0a, lj0b, lj1a, lj1b, lj2a, lj2b, lj3a, lj3b, lj4a, lj4b, lj5a, lj5b, lj6a, lj6b, lj7a, lj7b, lj8a, lj8b, lj9a, lj9b, lj10a, lj10b, lj11a, lj11b, lj12a, lj12b, lj13a, lj13b, lj14a, lj14b, lj15a, lj15b, lj16a, lj16b, lj17a, lj17b, lj18a, lj18b, lj19a, lj19b, ob_co r.o, c_f1 r, c_f2 r, c_f3 r, c_f4 r, c_f5 r, mo_gk r.o, mo_gv r.o, c_isSeller r.o r.g0, c_isSort r.o r.g0, ar_ik r.g0, ar_ia r.g0, ar_is r.g0, c1]
    exact k.er r ok
  rw [if_pos c1] at k
  obtain ⟨w, hw, rfl⟩ := nI_rng (k := 1) (by decide) c1
  rw [e9, nI_clamp (by omega), nI_clamp (by omega)] at k
  obtain ⟨F, hF⟩ : ∃ F, F = 611 := ⟨611, rfl⟩
  have hx : ∃ s, rdx A tp w = some s := by
    unfold rdx
    rw [← hF]
    exact rd_to F 0 0 0 _ 0 (by decide) (Nat.zero_le _) (by rw [if_pos (by decide)]; omega)
  obtain ⟨⟨b, a', c', n'⟩, hs⟩ := hx
  rw [hs] at k
  have hs' := hs
  unfold rdx at hs'
  rw [← hF] at hs'
  have hin := rd_in _ _ _ _ _ _ _ _ _ _ hs' (by decide) (Nat.zero_le tp)
  have r1 := r.s0 (f := upd (A 0) 9 0)
  have eT : TT_ (up2 A 0 (upd (A 0) 9 0)) = TT_ A := by
    funext j
    unfold TT_
    rw [up2_s, pk_un (by omega)]
  have e5 : up2 A 0 (upd (A 0) 9 0) 5 = A 5 := up2_n (by decide)
  have hr : rd (TT_ (up2 A 0 (upd (A 0) 9 0))) tp (decide (w = 0)) F 0 0 0 (up2 A 0 (upd (A 0) 9 0) 5) 0 = some (b, a', c', n') := by rw [eT, e5]; exact hs'
  have rds := fun Q' => c_reads (X := X) (d := d + 7) (Q := Q') r1 (u := w) (by omega) htp hr
  clear hs hs' hr
  have r2 : RW _ (vRd v tp (decide (w = 0))) _ := r1.setv (v' := vRd v tp (decide (w = 0)))
  have fr1 : FR h (h.set 97 (.inl (0, 280, .inl (upd (A 0) 9 0)))) := FR.set (by decide) (by decide)
  have fr2 := fr1.tr (FR.set (a := 96) (x := .inr (12, mof (vRd v tp (decide (w = 0))))) (by decide) (by decide))
  have fr3 : ∀ f o, FR h (PH ((h.set 97 (.inl (0, 280, .inl (upd (A 0) 9 0)))).set 96 (.inr (12, mof (vRd v tp (decide (w = 0)))))) (vRd v tp (decide (w = 0))) c' (nI a') f o (nI n')) := fun f o => fr2.tr ((FR.set (by decide) (by decide)).tr (FR.set (by decide) (by decide)))
  simp only [i147_0, i147_1, i147_2, i147_3, i147_4, i147_7, i147_10, i147_11, i147_12, i147_15, i147_16, i147_17, i147_20, i147_22, i147_23, i147_24, i147_25, i147_28, i147_30, i147_31, i147_32, i147_33, i147_36, i147_37, i147_38, i147_42, i147_45, i147_48, i147_50, i147_51, i147_54, i147_55, i147_56, i147_57, i147_60, i147_62, i147_63, i147_64, i147_65, i147_68, i147_69, i147_70, i147_71, i147_72, i147_73, i147_76, i147_79, i147_80, i147_83, i147_85, i147_87, i147_88, i147_89, i147_90, i147_91, i147_92, i147_93, i147_96, i147_97, i147_98, i147_99, i147_102, i147_105, i147_106, i147_e, c_in, c_isAhead, c_isSheet, c_areRight, bi_eq0, decide_true, decide_false, and_self, if_true, if_false, reduceCtorEq, not_true_eq_false, not_false_eq_true, mx_k0, mx_t0, fa_wide_le, Option.toList_some, Option.toList_none, List.nil_append, List.cons_append, true_and, and_true, eq_self, true_or, or_true, bi_01, mx_nl_i, mx_nl_r, mx_nl_n, mx_nl_f, mx_nl_d, lj0a, lj0b, lj1a, lj1b, lj2a, lj2b, lj3a, lj3b, lj4a, lj4b, lj5a, lj5b, lj6a, lj6b, lj7a, lj7b, lj8a, lj8b, lj9a, lj9b, lj10a, lj10b, lj11a, lj11b, lj12a, lj12b, lj13a, lj13b, lj14a, lj14b, lj15a, lj15b, lj16a, lj16b, lj17a, lj17b, lj18a, lj18b, lj19a, lj19b, ob_co r.o, c_f1 r, c_f2 r, c_f3 r, c_f4 r, c_f5 r, mo_gk r.o, mo_gv r.o, c_isSeller r.o r.g0, c_isSort r.o r.g0, ar_ik r.g0, ar_ia r.g0, ar_is r.g0, c1, e9, ob_co r1.o]
  rw [rds]
  show ex_ X (d + 60) 147 41 [.ref 96, .int (nI w), .int (nI tp), .double 0] (([] : List Value) ++ []) _ Q
  replace k : KR h (if b = true ∧ a' = tp then (1, v, up2 A 0 (txd (upd (A 0) 9 0) w n' c')) else (-10 - nI a', v, up2 A 0 (upd (A 0) 9 0))) Q := k
  have r3 := fun (f o : Int32) => ph_rw (c := c') (a := nI a') (f := f) (o := o) (n := nI n') r2
  have sm : SM (up2 A 0 (upd (A 0) 9 0)) (up2 (up2 A 0 (upd (A 0) 9 0)) 5 c') := fun j hj => up2_n (by omega)
  have z1 : Z_ (up2 (up2 A 0 (upd (A 0) 9 0)) 5 c' 1) := by rw [up2_n (by decide), up2_n (by decide)]; exact ok.2.1
  by_cases q : b = true ∧ a' = tp
  · rw [if_pos q] at k
    obtain ⟨rfl, rfl⟩ := q
    have x1 : (104 + nI w : Int32) = nI (104 + w) := nI_add 104 w
    have g0 := ph_g0 (c := c') (a := nI a') (f := -1) (o := nI 0) (n := nI n') r2
    rw [up2_s] at g0
    have r4 := r3 (-1) (nI 0)
    have hl := c_text_l (X := X) (d := d + 60) (Q := Q) (m := upd (A 0) 9 0) (w2 := .int (nI a')) r4 (u := w) (n' := n') (by omega) (by omega) rfl rfl n' 0 (by omega)
    rw [up2_s, ← txe_0] at hl
    simp only [flt, Bool.true_and, decide_true, if_true]
    simp only [i147_0, i147_1, i147_2, i147_3, i147_4, i147_7, i147_10, i147_11, i147_12, i147_15, i147_16, i147_17, i147_20, i147_22, i147_23, i147_24, i147_25, i147_28, i147_30, i147_31, i147_32, i147_33, i147_36, i147_37, i147_38, i147_41, i147_42, i147_45, i147_48, i147_50, i147_51, i147_54, i147_55, i147_56, i147_57, i147_60, i147_62, i147_63, i147_64, i147_65, i147_68, i147_69, i147_70, i147_72, i147_73, i147_76, i147_79, i147_80, i147_83, i147_85, i147_87, i147_88, i147_89, i147_90, i147_91, i147_92, i147_93, i147_96, i147_97, i147_98, i147_99, i147_102, i147_105, i147_106, i147_e, c_in, c_isAhead, c_isSheet, c_areRight, bi_eq0, decide_true, decide_false, and_self, if_true, if_false, reduceCtorEq, not_true_eq_false, not_false_eq_true, mx_k0, mx_t0, fa_wide_le, Option.toList_some, Option.toList_none, List.nil_append, List.cons_append, true_and, and_true, eq_self, true_or, or_true, bi_01, mx_nl_i, mx_nl_r, mx_nl_n, mx_nl_f, mx_nl_d, lj0a, lj0b, lj1a, lj1b, lj2a, lj2b, lj3a, lj3b, lj4a, lj4b, lj5a, lj5b, lj6a, lj6b, lj7a, lj7b, lj8a, lj8b, lj9a, lj9b, lj10a, lj10b, lj11a, lj11b, lj12a, lj12b, lj13a, lj13b, lj14a, lj14b, lj15a, lj15b, lj16a, lj16b, lj17a, lj17b, lj18a, lj18b, lj19a, lj19b, mo_gk (ph_o r2), mo_gv (ph_o r2), ph_8, ph_13, show ((-1 : Int32) < 0) from by decide, x1, ar_ik g0, ar_is g0, mx_inN (show 104 + w < 280 by omega) (by decide), nI_clamp (show 104 + w < 2 ^ 31 by omega)]
    refine hl.mpr ?_
    refine k _ _ _ ⟨r4.s0, (fr3 _ _).tr (FR.set (by decide) (by decide)), rfl, rfl, fun j hj => ?_, ?_⟩
    · show up2 _ 0 _ j = up2 A 0 _ j
      by_cases e : j = 0
      · subst e; rw [up2_s, up2_s]; rfl
      · rw [up2_n e, up2_n e, up2_n (by omega), up2_n e]
    · rw [up2_n (by decide)]; exact z1
  · rw [if_neg q] at k
    have ef : flt (b && decide (a' = tp)) a' = nI a' := by
      unfold flt
      rw [if_neg]
      intro e
      simp only [Bool.and_eq_true, decide_eq_true_eq] at e
      exact q e
    have hp : ¬ (nI a' : Int32) < 0 := nI_pos (by omega)
    rw [ef]
    simp only [i147_0, i147_1, i147_2, i147_3, i147_4, i147_7, i147_10, i147_11, i147_12, i147_15, i147_16, i147_17, i147_20, i147_22, i147_23, i147_24, i147_25, i147_28, i147_30, i147_31, i147_32, i147_33, i147_36, i147_37, i147_38, i147_41, i147_42, i147_45, i147_48, i147_50, i147_51, i147_54, i147_55, i147_56, i147_57, i147_60, i147_62, i147_63, i147_64, i147_65, i147_68, i147_69, i147_70, i147_72, i147_73, i147_76, i147_79, i147_80, i147_83, i147_85, i147_87, i147_88, i147_89, i147_90, i147_91, i147_92, i147_93, i147_96, i147_97, i147_98, i147_99, i147_102, i147_105, i147_106, i147_e, c_in, c_isAhead, c_isSheet, c_areRight, bi_eq0, decide_true, decide_false, and_self, if_true, if_false, reduceCtorEq, not_true_eq_false, not_false_eq_true, mx_k0, mx_t0, fa_wide_le, Option.toList_some, Option.toList_none, List.nil_append, List.cons_append, true_and, and_true, eq_self, true_or, or_true, bi_01, mx_nl_i, mx_nl_r, mx_nl_n, mx_nl_f, mx_nl_d, lj0a, lj0b, lj1a, lj1b, lj2a, lj2b, lj3a, lj3b, lj4a, lj4b, lj5a, lj5b, lj6a, lj6b, lj7a, lj7b, lj8a, lj8b, lj9a, lj9b, lj10a, lj10b, lj11a, lj11b, lj12a, lj12b, lj13a, lj13b, lj14a, lj14b, lj15a, lj15b, lj16a, lj16b, lj17a, lj17b, lj18a, lj18b, lj19a, lj19b, mo_gk (ph_o r2), mo_gv (ph_o r2), ph_8, hp]
    exact k _ _ _ ⟨r3 _ _, fr3 _ _, rfl, rfl, sm, z1⟩
end RL
