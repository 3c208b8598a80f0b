/-! the reference: texts worked out -/
def dn_ (sg x y : Int32) : Int32 :=
  if sg = 38 then bi_ (decide (¬ x = 0 ∧ ¬ y = 0)) else if sg = 42 then x * y else if sg = 43 then x + y else if sg = 45 then x - y else if sg = 47 then (if y = 0 then 0 else x / y)
  else if sg = 60 then bi_ (decide (x < y)) else if sg = 61 then bi_ (decide (x = y)) else if sg = 62 then bi_ (decide (y < x)) else if sg = 124 then bi_ (decide (¬ x = 0 ∨ ¬ y = 0)) else (if y = 0 then 0 else x - x / y * y)
section R3
variable {X : MXX} {d : Nat} {h : MXH} {Q : MXP}
theorem c_done {sg x y : Int32} : ev_ X d 144 [.int sg, .int x, .int y] h Q = Q (some (.int (dn_ sg x y))) h := by
  unfold dn_
  by_cases c1 : x = 0 <;> by_cases c2 : y = 0 <;>
    simp only [i144_0, i144_84, i144_85, i144_88, i144_89, i144_92, i144_93, i144_96, i144_97, i144_98, i144_99, i144_102, i144_103, i144_106, i144_107, i144_110, i144_111, i144_112, i144_113, i144_114, i144_117, i144_118, i144_121, i144_122, i144_123, i144_124, i144_125, i144_128, i144_129, i144_132, i144_133, i144_134, i144_135, i144_136, i144_139, i144_140, i144_143, i144_144, i144_145, i144_146, i144_147, i144_148, i144_149, i144_150, i144_151, i144_152, i144_153, i144_154, i144_155, i144_156, i144_157, i144_158, i144_161, i144_162, i144_165, i144_166, i144_167, i144_168, i144_169, i144_170, i144_173, i144_174, i144_177, i144_178, i144_179, i144_180, i144_e, i144_1s, c1, c2, true_and, and_true, eq_self, true_or, or_true, bi_01, mx_nl_i, mx_nl_r, mx_nl_n, mx_nl_f, mx_nl_d, ne_eq, not_true_eq_false, not_false_eq_true, if_true, if_false, mx_iteQ, decide_true, decide_false, and_false, false_and, and_self, or_self, false_or, or_false, bi_, cond_true, cond_false, bi_iten, Int32.not_le, Decidable.not_not]
  all_goals first | rfl | skip
/-- one step of the pile: what it holds, how many -/
def ws_ (nm : Nat → Int32) (c : Int32) (q : (Nat → Int32) × Nat) : (Nat → Int32) × Nat :=
  if c < 20000 then (upd q.1 q.2 (if c < 10000 then c else nm (c - 10000).toNatClampNeg), q.2 + 1)
  else if c = 20033 then (upd q.1 (q.2 - 1) (if q.1 (q.2 - 1) = 0 then 1 else 0), q.2)
  else (upd q.1 (q.2 - 2) (dn_ (c - 20000) (q.1 (q.2 - 2)) (q.1 (q.2 - 1))), q.2 - 1)
def wr_ (nm c : Nat → Int32) (p : Nat → Int32) : Nat → (Nat → Int32) × Nat
  | 0 => (p, 0)
  | j + 1 => ws_ nm (c j) (wr_ nm c p j)
/-- a step that stays within the pile -/
def wk_ (c : Int32) (t : Nat) : Prop := (c < 20000 ∧ t < 60 ∧ (c < 10000 ∨ mx_in (c - 10000) 4 = true)) ∨ (c = 20033 ∧ 1 ≤ t ∧ t ≤ 60) ∨ (¬ c < 20000 ∧ ¬ c = 20033 ∧ 2 ≤ t ∧ t ≤ 60)
set_option maxHeartbeats 1000000 in
theorem c_worked_l {v : Nat → Int32} {A : Nat → Nat → Int32} (r : RW h v A) {fr N : Nat} (hN : fr + N ≤ 280) (hok : ∀ j, j < N → wk_ (A 0 (fr + j)) (wr_ (A 4) (fun j => A 0 (fr + j)) (A 6) j).2) :
    ∀ n j (w5 : Value), j + n = N → mx_nl w5 = true → ex_ X (d + 1) 145 5 [.ref 96, .int (nI fr), .int (nI N), .int (nI (wr_ (A 4) (fun j => A 0 (fr + j)) (A 6) j).2), .int (nI (fr + j)), w5] [] (h.set 103 (.inl (0, 60, .inl (wr_ (A 4) (fun j => A 0 (fr + j)) (A 6) j).1))) Q = Q (some (.int ((wr_ (A 4) (fun j => A 0 (fr + j)) (A 6) N).1 0))) (h.set 103 (.inl (0, 60, .inl (wr_ (A 4) (fun j => A 0 (fr + j)) (A 6) N).1))) := by
  intro n
  induction n with
  | zero =>
    intro j w5 hj hw
    have e : j = N := by omega
    subst e
    have hc : (nI (fr + j) : Int32) ≤ nI (fr + j) := Int32.le_refl _
    have rr := r.s6 (f := (wr_ (A 4) (fun j => A 0 (fr + j)) (A 6) j).1)
    rw [i145_5]
    simp only [i145_0, i145_1, i145_2, i145_3, i145_7, i145_8, i145_9, i145_10, i145_13, i145_14, i145_17, i145_19, i145_20, i145_22, i145_24, i145_27, i145_30, i145_31, i145_34, i145_35, i145_37, i145_40, i145_43, i145_45, i145_48, i145_49, i145_52, i145_54, i145_57, i145_58, i145_59, i145_60, i145_63, i145_66, i145_68, i145_71, i145_74, i145_75, i145_78, i145_79, i145_80, i145_81, i145_82, i145_85, i145_86, i145_87, i145_88, i145_89, i145_92, i145_93, i145_96, i145_97, i145_98, i145_101, i145_104, i145_105, i145_108, i145_109, i145_110, i145_111, i145_113, i145_116, i145_117, i145_118, i145_121, i145_122, i145_123, i145_124, i145_125, i145_126, i145_129, i145_130, i145_131, i145_134, i145_135, i145_138, i145_141, i145_142, i145_145, i145_146, i145_147, i145_e, nI_add, hc, if_true, mo_gk rr.o, mo_gv rr.o, ar_ik rr.g6, ar_ia rr.g6, up2_s, show mx_in 0 60 = true from by decide, show (0 : Int32).toNatClampNeg = 0 from by decide, true_and, and_true, eq_self, true_or, or_true, bi_01, mx_nl_i, mx_nl_r, mx_nl_n, mx_nl_f, mx_nl_d]
  | succ n ih =>
    intro j w5 hj hw
    have hlt : j < N := by omega
    have hc : ¬ ((nI (fr + N) : Int32) ≤ nI (fr + j)) := by rw [nI_leI (by omega) (by omega)]; omega
    have hstep : wr_ (A 4) (fun j => A 0 (fr + j)) (A 6) (j + 1) = ws_ (A 4) (A 0 (fr + j)) (wr_ (A 4) (fun j => A 0 (fr + j)) (A 6) j) := rfl
    have ih := fun w5 hw => ih (j + 1) w5 (by omega) hw
    rw [hstep] at ih
    have hk := hok j hlt
    generalize hq : wr_ (A 4) (fun j => A 0 (fr + j)) (A 6) j = q at ih hk ⊢
    obtain ⟨p, t⟩ := q
    have rr := r.s6 (f := p)
    have ho := rr.o
    have g0 := rr.g0
    have g4 := rr.g4
    have g6 := rr.g6
    rw [up2_n (by decide)] at g0 g4
    rw [up2_s] at g6
    have hcode : ia_ (h.set 103 (.inl (0, 60, .inl p))) 97 (nI (fr + j)) = A 0 (fr + j) := by rw [ar_ia g0, nI_clamp (by omega)]
    have hcin : ik_ (h.set 103 (.inl (0, 60, .inl p))) 97 (nI (fr + j)) = true := by rw [ar_ik g0]; exact mx_inN (by omega) (by decide)
    have e1 : (nI (fr + j) + 1 : Int32) = nI (fr + (j + 1)) := by rw [nI_1]; rfl
    generalize hcd : A 0 (fr + j) = cd at hk ih hcode
    simp only [wk_] at hk
    rw [i145_5]
    rcases hk with ⟨k1, k2, k3⟩ | ⟨rfl, k2, k3⟩ | ⟨k1, k2, k3, k4⟩
    · have k1' : ¬ ((20000 : Int32) ≤ cd) := Int32.not_le.mpr k1
      have ht : mx_in (nI t) 60 = true := mx_inN k2 (by decide)
      simp only [ws_, k1, if_true] at ih
      by_cases k5 : cd < 10000
      · have k5' : ¬ ((10000 : Int32) ≤ cd) := Int32.not_le.mpr k5
        simp only [k5, if_true] at ih
        simp only [i145_0, i145_1, i145_2, i145_3, i145_7, i145_8, i145_9, i145_10, i145_13, i145_14, i145_17, i145_19, i145_20, i145_22, i145_24, i145_27, i145_30, i145_31, i145_34, i145_35, i145_37, i145_40, i145_43, i145_45, i145_48, i145_49, i145_52, i145_54, i145_57, i145_58, i145_59, i145_60, i145_63, i145_66, i145_68, i145_71, i145_74, i145_75, i145_78, i145_79, i145_80, i145_81, i145_82, i145_85, i145_86, i145_87, i145_88, i145_89, i145_92, i145_93, i145_96, i145_97, i145_98, i145_101, i145_104, i145_105, i145_108, i145_109, i145_110, i145_111, i145_113, i145_116, i145_117, i145_118, i145_121, i145_122, i145_123, i145_124, i145_125, i145_126, i145_129, i145_130, i145_131, i145_134, i145_135, i145_138, i145_141, i145_142, i145_145, i145_146, i145_147, i145_e, nI_add, hc, if_false, mo_gk ho, mo_gv ho, hcode, hcin, hw, k1', k5', ar_ik g6, ar_is g6, ht, nI_clamp (show t < 2 ^ 31 by omega), true_and, and_true, eq_self, true_or, or_true, bi_01, mx_nl_i, mx_nl_r, mx_nl_n, mx_nl_f, mx_nl_d, List.set_set, nI_1, e1]
        exact ih _ rfl
      · have k5' : (10000 : Int32) ≤ cd := Int32.not_lt.mp k5
        simp only [k5, if_false] at ih
        have k6 := k3.resolve_left k5
        simp only [i145_0, i145_1, i145_2, i145_3, i145_7, i145_8, i145_9, i145_10, i145_13, i145_14, i145_17, i145_19, i145_20, i145_22, i145_24, i145_27, i145_30, i145_31, i145_34, i145_35, i145_37, i145_40, i145_43, i145_45, i145_48, i145_49, i145_52, i145_54, i145_57, i145_58, i145_59, i145_60, i145_63, i145_66, i145_68, i145_71, i145_74, i145_75, i145_78, i145_79, i145_80, i145_81, i145_82, i145_85, i145_86, i145_87, i145_88, i145_89, i145_92, i145_93, i145_96, i145_97, i145_98, i145_101, i145_104, i145_105, i145_108, i145_109, i145_110, i145_111, i145_113, i145_116, i145_117, i145_118, i145_121, i145_122, i145_123, i145_124, i145_125, i145_126, i145_129, i145_130, i145_131, i145_134, i145_135, i145_138, i145_141, i145_142, i145_145, i145_146, i145_147, i145_e, nI_add, hc, if_false, if_true, mo_gk ho, mo_gv ho, hcode, hcin, hw, k1', k5', k6, ar_ik g4, ar_ia g4, ar_ik g6, ar_is g6, ht, nI_clamp (show t < 2 ^ 31 by omega), true_and, and_true, eq_self, true_or, or_true, bi_01, mx_nl_i, mx_nl_r, mx_nl_n, mx_nl_f, mx_nl_d, List.set_set, nI_1, e1]
        exact ih _ rfl
    · have t1 : (nI t - 1 : Int32) = nI (t - 1) := pk_sub (by omega)
      have ht : mx_in (nI (t - 1)) 60 = true := mx_inN (by omega) (by decide)
      simp only [ws_, show ¬ ((20033 : Int32) < 20000) from by decide, if_true, if_false] at ih
      by_cases k5 : p (t - 1) = 0
      · simp only [k5, if_true] at ih
        simp only [i145_0, i145_1, i145_2, i145_3, i145_7, i145_8, i145_9, i145_10, i145_13, i145_14, i145_17, i145_19, i145_20, i145_22, i145_24, i145_27, i145_30, i145_31, i145_34, i145_35, i145_37, i145_40, i145_43, i145_45, i145_48, i145_49, i145_52, i145_54, i145_57, i145_58, i145_59, i145_60, i145_63, i145_66, i145_68, i145_71, i145_74, i145_75, i145_78, i145_79, i145_80, i145_81, i145_82, i145_85, i145_86, i145_87, i145_88, i145_89, i145_92, i145_93, i145_96, i145_97, i145_98, i145_101, i145_104, i145_105, i145_108, i145_109, i145_110, i145_111, i145_113, i145_116, i145_117, i145_118, i145_121, i145_122, i145_123, i145_124, i145_125, i145_126, i145_129, i145_130, i145_131, i145_134, i145_135, i145_138, i145_141, i145_142, i145_145, i145_146, i145_147, i145_e, nI_add, hc, if_false, if_true, mo_gk ho, mo_gv ho, hcode, hcin, hw, show ((20000 : Int32) ≤ 20033) from by decide, not_true_eq_false, t1, ar_ik g6, ar_ia g6, ar_is g6, ht, nI_clamp (show t - 1 < 2 ^ 31 by omega), k5, true_and, and_true, eq_self, true_or, or_true, bi_01, mx_nl_i, mx_nl_r, mx_nl_n, mx_nl_f, mx_nl_d, List.set_set, e1]
        exact ih _ rfl
      · simp only [k5, if_false] at ih
        simp only [i145_0, i145_1, i145_2, i145_3, i145_7, i145_8, i145_9, i145_10, i145_13, i145_14, i145_17, i145_19, i145_20, i145_22, i145_24, i145_27, i145_30, i145_31, i145_34, i145_35, i145_37, i145_40, i145_43, i145_45, i145_48, i145_49, i145_52, i145_54, i145_57, i145_58, i145_59, i145_60, i145_63, i145_66, i145_68, i145_71, i145_74, i145_75, i145_78, i145_79, i145_80, i145_81, i145_82, i145_85, i145_86, i145_87, i145_88, i145_89, i145_92, i145_93, i145_96, i145_97, i145_98, i145_101, i145_104, i145_105, i145_108, i145_109, i145_110, i145_111, i145_113, i145_116, i145_117, i145_118, i145_121, i145_122, i145_123, i145_124, i145_125, i145_126, i145_129, i145_130, i145_131, i145_134, i145_135, i145_138, i145_141, i145_142, i145_145, i145_146, i145_147, i145_e, nI_add, hc, if_false, if_true, mo_gk ho, mo_gv ho, hcode, hcin, hw, show ((20000 : Int32) ≤ 20033) from by decide, not_true_eq_false, not_false_eq_true, t1, ar_ik g6, ar_ia g6, ar_is g6, ht, nI_clamp (show t - 1 < 2 ^ 31 by omega), k5, true_and, and_true, eq_self, true_or, or_true, bi_01, mx_nl_i, mx_nl_r, mx_nl_n, mx_nl_f, mx_nl_d, List.set_set, e1]
        exact ih _ rfl
    · have k1' : (20000 : Int32) ≤ cd := Int32.not_lt.mp k1
      have t0 : (nI t + (-1) : Int32) = nI (t - 1) := by
        have := pk_m1 (t - 1)
        rwa [show t - 1 + 1 = t by omega] at this
      have t1 : (nI (t - 1) - 1 : Int32) = nI (t - 2) := by
        have := pk_sub (a := t - 1) (b := 1) (by omega)
        rw [show t - 1 - 1 = t - 2 by omega] at this
        exact this
      have ht : mx_in (nI (t - 1)) 60 = true := mx_inN (by omega) (by decide)
      have ht2 : mx_in (nI (t - 2)) 60 = true := mx_inN (by omega) (by decide)
      simp only [ws_, k1, k2, if_false] at ih
      simp only [i145_0, i145_1, i145_2, i145_3, i145_7, i145_8, i145_9, i145_10, i145_13, i145_14, i145_17, i145_19, i145_20, i145_22, i145_24, i145_27, i145_30, i145_31, i145_34, i145_35, i145_37, i145_40, i145_43, i145_45, i145_48, i145_49, i145_52, i145_54, i145_57, i145_58, i145_59, i145_60, i145_63, i145_66, i145_68, i145_71, i145_74, i145_75, i145_78, i145_79, i145_80, i145_81, i145_82, i145_85, i145_86, i145_87, i145_88, i145_89, i145_92, i145_93, i145_96, i145_97, i145_98, i145_101, i145_104, i145_105, i145_108, i145_109, i145_110, i145_111, i145_113, i145_116, i145_117, i145_118, i145_121, i145_122, i145_123, i145_124, i145_125, i145_126, i145_129, i145_130, i145_131, i145_134, i145_135, i145_138, i145_141, i145_142, i145_145, i145_146, i145_147, i145_e, nI_add, hc, if_false, if_true, mo_gk ho, mo_gv ho, hcode, hcin, hw, k1', k2, not_false_eq_true, t0, t1, c_done, ar_ik g6, ar_ia g6, ar_is g6, ht, ht2, nI_clamp (show t - 1 < 2 ^ 31 by omega), nI_clamp (show t - 2 < 2 ^ 31 by omega), true_and, and_true, eq_self, true_or, or_true, bi_01, mx_nl_i, mx_nl_r, mx_nl_n, mx_nl_f, mx_nl_d, Option.toList_some, Option.toList_none, List.nil_append, List.cons_append, List.set_set, e1]
      exact ih _ rfl
theorem c_worked {v : Nat → Int32} {A : Nat → Nat → Int32} (r : RW h v A) {fr N : Nat} (hN : fr + N ≤ 280) (hok : ∀ j, j < N → wk_ (A 0 (fr + j)) (wr_ (A 4) (fun j => A 0 (fr + j)) (A 6) j).2) :
    ev_ X (d + 1) 145 [.ref 96, .int (nI fr), .int (nI N)] h Q = Q (some (.int ((wr_ (A 4) (fun j => A 0 (fr + j)) (A 6) N).1 0))) (h.set 103 (.inl (0, 60, .inl (wr_ (A 4) (fun j => A 0 (fr + j)) (A 6) N).1))) := by
  have h0 := c_worked_l (X := X) (d := d) (Q := Q) r hN hok N 0 (.double 0) (by omega) rfl
  have e0 : h.set 103 (.inl (0, 60, .inl (wr_ (A 4) (fun j => A 0 (fr + j)) (A 6) 0).1)) = h := by
    apply List.ext_getElem?
    intro i
    rw [List.getElem?_set]
    by_cases e : 103 = i
    · subst e
      have hb := r.g6
      rw [if_pos rfl, hb, if_pos (List.getElem?_eq_some_iff.mp hb).1]
      rfl
    · rw [if_neg e]
  rw [e0] at h0
  simp only [i145_0, i145_1, i145_2, i145_3, i145_7, i145_8, i145_9, i145_10, i145_13, i145_14, i145_17, i145_19, i145_20, i145_22, i145_24, i145_27, i145_30, i145_31, i145_34, i145_35, i145_37, i145_40, i145_43, i145_45, i145_48, i145_49, i145_52, i145_54, i145_57, i145_58, i145_59, i145_60, i145_63, i145_66, i145_68, i145_71, i145_74, i145_75, i145_78, i145_79, i145_80, i145_81, i145_82, i145_85, i145_86, i145_87, i145_88, i145_89, i145_92, i145_93, i145_96, i145_97, i145_98, i145_101, i145_104, i145_105, i145_108, i145_109, i145_110, i145_111, i145_113, i145_116, i145_117, i145_118, i145_121, i145_122, i145_123, i145_124, i145_125, i145_126, i145_129, i145_130, i145_131, i145_134, i145_135, i145_138, i145_141, i145_142, i145_145, i145_146, i145_147, i145_e, true_and, and_true, eq_self, true_or, or_true, bi_01, mx_nl_i, mx_nl_r, mx_nl_n, mx_nl_f, mx_nl_d]
  exact h0
end R3
