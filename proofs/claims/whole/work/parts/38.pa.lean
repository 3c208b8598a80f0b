/-! what each call answers and leaves, as pure functions of the reference's rows; the reference's own calls -/
def NI (x : Int32) (k : Nat) : Prop := ∃ n, n ≤ k ∧ x = nI n
def Z_ (f : Nat → Int32) : Prop := ∀ j, 280 ≤ j → f j = 0
def MI (m : Nat → Int32) : Prop := (∃ ns nb, MD m ns nb) ∧ TO m 0 ∧ TO m 1 ∧ Z_ m ∧ NI (m 9) 50 ∧ NI (m 10) 20 ∧ (∀ s, s < 6 → NI (m (20 + 8 * s + 0)) 6 ∧ NI (m (20 + 8 * s + 3)) 9 ∧ NI (m (20 + 8 * s + 4)) 99 ∧ (m (20 + 8 * s + 6) = -1 ∨ 0 ≤ m (20 + 8 * s + 6))) ∧ (∀ b, b < 8 → NI (m (70 + 4 * b + 0)) 9 ∧ NI (m (70 + 4 * b + 3)) 99) ∧ (∀ j, j < 50 → NI (m (226 + j)) 255)
def OK (v : Nat → Int32) (A : Nat → Nat → Int32) : Prop := MI (A 0) ∧ Z_ (A 1) ∧ Z_ (A 2) ∧ (¬ v 3 = 0 → MI (A 2)) ∧ NI (v 18) 40 ∧ (∀ s, s < 4 → NI (A 11 s) 40 ∧ (A 10 s = 0 ∨ A 10 s = 8 ∨ A 10 s = 16 ∨ A 10 s = 32))
def SM (A A' : Nat → Nat → Int32) : Prop := ∀ j, (j = 0 ∨ j = 2 ∨ j = 3 ∨ j = 9 ∨ j = 10 ∨ j = 11 ∨ j = 12) → A' j = A j
def N_ (h : MXH) (v : Nat → Int32) (A : Nat → Nat → Int32) (h' : MXH) (v' : Nat → Int32) (A' : Nat → Nat → Int32) : Prop := RW h' v' A' ∧ FR h h' ∧ v' 3 = v 3 ∧ v' 18 = v 18 ∧ SM A A' ∧ Z_ (A' 1)
abbrev PR : Type := Int32 × (Nat → Int32) × (Nat → Nat → Int32)
def KR (h : MXH) (p : PR) (Q : MXP) : Prop := ∀ h' v' A', N_ h p.2.1 p.2.2 h' v' A' → Q (some (.int p.1)) h'
def er_ (v : Nat → Int32) (A : Nat → Nat → Int32) (k : Nat) : PR := (-1000000000 - nI k, v, up2 A 3 (upd (A 3) k (A 3 k + 1)))
theorem SM.rf (A : Nat → Nat → Int32) : SM A A := fun _ _ => rfl
theorem nI_sel {x : Int32} {n : Nat} (hn : n < 2 ^ 30) (h : 0 ≤ x ∧ x ≤ nI n - 1) : ∃ s, s < n ∧ x = nI s := by
  by_cases e : n = 0
  · subst e
    have h2 : x ≤ -1 := h.2
    have h3 := h.1
    simp only [Int32.le_iff_toInt_le] at h2 h3
    have e1 : (-1 : Int32).toInt = -1 := by decide
    have e2 : (0 : Int32).toInt = 0 := by decide
    omega
  · obtain ⟨m, rfl⟩ : ∃ m, n = m + 1 := ⟨n - 1, by omega⟩
    rw [nI_pred] at h
    obtain ⟨j, hj, e⟩ := nI_of2 (nI_toInt (n := m) (by omega)) (Int32.not_lt.mpr h.1) h.2
    exact ⟨j, by omega, e⟩
theorem nI_rng {x : Int32} {k : Nat} (hk : k < 2 ^ 31) (h : 0 ≤ x ∧ x ≤ nI k) : ∃ s, s ≤ k ∧ x = nI s := nI_of2 (nI_toInt hk) (Int32.not_lt.mpr h.1) h.2
section R8
variable {X : MXX} {d : Nat} {h : MXH} {Q : MXP} {v : Nat → Int32} {A : Nat → Nat → Int32}
theorem KR.er {k : Nat} (q : KR h (er_ v A k) Q) (r : RW h v A) (ok : OK v A) : Q (some (.int (-1000000000 - nI k))) (h.set 100 (.inl (0, 6, .inl (upd (A 3) k (A 3 k + 1))))) :=
  q _ v _ ⟨r.s3, FR.set (by decide) (by decide), rfl, rfl, SM.rf _, by show Z_ (up2 A 3 _ 1); rw [up2_n (by decide)]; exact ok.2.1⟩
theorem KR.er' {h' : MXH} {A' : Nat → Nat → Int32} {k : Nat} (q : KR h (er_ v A k) Q) (r : RW h' v A') (f : FR h h') (s : SM A A') (z : Z_ (A' 1)) : Q (some (.int (-1000000000 - nI k))) (h'.set 100 (.inl (0, 6, .inl (upd (A' 3) k (A' 3 k + 1))))) := by
  refine q _ v _ ⟨r.s3, f.tr (FR.set (by decide) (by decide)), rfl, rfl, ?_, by rw [up2_n (by decide)]; exact z⟩
  intro j hj
  show up2 A' 3 _ j = up2 A 3 _ j
  by_cases e : j = 3
  · subst e; rw [up2_s, up2_s, s 3 (by decide)]
  · rw [up2_n e, up2_n e]; exact s j hj
theorem c_f1 (r : RW h v A) : ev_ X d 123 [.ref 96, .int 1] h Q = Q (some (.int (-1000000000 - nI 1))) (h.set 100 (.inl (0, 6, .inl (upd (A 3) 1 (A 3 1 + 1))))) := c_finds1 r.o r.g3 (k := 1) (by decide)
theorem c_f2 (r : RW h v A) : ev_ X d 123 [.ref 96, .int 2] h Q = Q (some (.int (-1000000000 - nI 2))) (h.set 100 (.inl (0, 6, .inl (upd (A 3) 2 (A 3 2 + 1))))) := c_finds1 r.o r.g3 (k := 2) (by decide)
theorem c_f3 (r : RW h v A) : ev_ X d 123 [.ref 96, .int 3] h Q = Q (some (.int (-1000000000 - nI 3))) (h.set 100 (.inl (0, 6, .inl (upd (A 3) 3 (A 3 3 + 1))))) := c_finds1 r.o r.g3 (k := 3) (by decide)
theorem c_f4 (r : RW h v A) : ev_ X d 123 [.ref 96, .int 4] h Q = Q (some (.int (-1000000000 - nI 4))) (h.set 100 (.inl (0, 6, .inl (upd (A 3) 4 (A 3 4 + 1))))) := c_finds1 r.o r.g3 (k := 4) (by decide)
theorem c_f5 (r : RW h v A) : ev_ X d 123 [.ref 96, .int 5] h Q = Q (some (.int (-1000000000 - nI 5))) (h.set 100 (.inl (0, 6, .inl (upd (A 3) 5 (A 3 5 + 1))))) := c_finds1 r.o r.g3 (k := 5) (by decide)
theorem KR.same {x : Int32} (q : KR h (x, v, A) Q) (r : RW h v A) (ok : OK v A) : Q (some (.int x)) h := q h v A ⟨r, FR.rf h, rfl, rfl, SM.rf A, ok.2.1⟩
theorem KR.sc {h' : MXH} {A' : Nat → Nat → Int32} {x : Int32} (q : KR h (x, v, A) Q) (ok : OK v A) (r : RW h' v A') (f : FR h h') (s : SC A A') : Q (some (.int x)) h' := q h' v A' ⟨r, f, rfl, rfl, fun j hj => s j (by omega) (by omega), by rw [s 1 (by decide) (by decide)]; exact ok.2.1⟩
theorem KR.dd {x : Int32} {f : Nat → Int32} (q : KR h (x, v, up2 A 0 f) Q) (r : RW h v A) (ok : OK v A) : Q (some (.int x)) (h.set 97 (.inl (0, 280, .inl f))) := q _ v _ ⟨r.s0, FR.set (by decide) (by decide), rfl, rfl, SM.rf _, by show Z_ (up2 A 0 _ 1); rw [up2_n (by decide)]; exact ok.2.1⟩
/-- seller -/
def sel_ (m : Nat → Int32) (s : Nat) (a b c : Int32) : Nat → Int32 := upd (upd (upd (upd (upd (upd (upd (upd m (20 + 8 * s + 0) a) (20 + 8 * s + 1) b) (20 + 8 * s + 2) (c / 10)) (20 + 8 * s + 3) (c - c / 10 * 10)) (20 + 8 * s + 4) 0) (20 + 8 * s + 5) 0) (20 + 8 * s + 6) (-1)) 1 (m 1 + 1)
def sp_seller (v : Nat → Int32) (A : Nat → Nat → Int32) (a b c : Int32) : PR := if (0 ≤ a ∧ a ≤ 6) ∧ (0 ≤ b ∧ b ≤ 99) ∧ (0 ≤ c ∧ c ≤ 9999) then (if A 0 1 = 6 then er_ v A 4 else (A 0 1, v, up2 A 0 (sel_ (A 0) (A 0 1).toNatClampNeg a b c))) else er_ v A 1
set_option maxHeartbeats 2000000 in
theorem r_seller (r : RW h v A) (ok : OK v A) {a b c : Int32} (k : KR h (sp_seller v A a b c) Q) : ev_ X (d + 9) 150 [.ref 96, .int a, .int b, .int c] h Q := by
  obtain ⟨ns, nb, hns, hnb, e1, e2, -⟩ := ok.1.1
  unfold sp_seller at k
  have g0 := r.g0
  by_cases hc : (0 ≤ a ∧ a ≤ 6) ∧ (0 ≤ b ∧ b ≤ 99) ∧ (0 ≤ c ∧ c ≤ 9999)
  case neg =>
    simp only [hc, if_false] at k
    have hf := k.er r ok
    by_cases c1 : (0 ≤ a ∧ a ≤ 6) <;> by_cases c2 : (0 ≤ b ∧ b ≤ 99) <;> by_cases c3 : (0 ≤ c ∧ c ≤ 9999)
    all_goals first | exact False.elim (hc ⟨c1, c2, c3⟩) | skip
    all_goals (simp only [i150_0, i150_1, i150_2, i150_3, i150_6, i150_9, i150_12, i150_13, i150_14, i150_15, i150_18, i150_21, i150_24, i150_25, i150_26, i150_27, i150_30, i150_33, i150_36, i150_37, i150_38, i150_41, i150_42, i150_43, i150_46, i150_47, i150_48, i150_50, i150_53, i150_54, i150_55, i150_58, i150_59, i150_61, i150_63, i150_64, i150_67, i150_68, i150_69, i150_70, i150_71, i150_73, i150_74, i150_77, i150_79, i150_80, i150_81, i150_82, i150_83, i150_84, i150_87, i150_89, i150_90, i150_91, i150_92, i150_93, i150_94, i150_97, i150_99, i150_100, i150_101, i150_102, i150_104, i150_105, i150_106, i150_107, i150_110, i150_112, i150_113, i150_114, i150_115, i150_117, i150_118, i150_119, i150_120, i150_123, i150_125, i150_126, i150_127, i150_128, i150_129, i150_130, i150_133, i150_135, i150_136, i150_137, i150_138, i150_139, i150_140, i150_143, i150_145, i150_147, i150_148, i150_149, i150_150, i150_151, i150_154, i150_155, i150_156, i150_157, i150_158, i150_159, i150_160, i150_161, i150_164, i150_165, i150_166, i150_167, i150_168, i150_e, true_and, and_true, eq_self, true_or, or_true, bi_01, mx_nl_i, mx_nl_r, mx_nl_n, mx_nl_f, mx_nl_d, c_in, Option.toList_some, Option.toList_none, List.nil_append, List.cons_append, lj0a, lj0b, lj1a, lj1b, lj2a, lj2b, lj3a, lj3b, lj4a, lj4b, lj5a, lj5b, lj6a, lj6b, lj7a, lj7b, lj8a, lj8b, lj9a, lj9b, lj10a, lj10b, lj11a, lj11b, lj12a, lj12b, lj13a, lj13b, lj14a, lj14b, lj15a, lj15b, lj16a, lj16b, lj17a, lj17b, lj18a, lj18b, lj19a, lj19b, c1, c2, c3, bi_eq0, decide_true, decide_false, and_self, if_true, if_false, reduceCtorEq, ob_co r.o, c_f1 r]; exact hf)
  obtain ⟨c1, c2, c3⟩ := hc
  simp only [c1, c2, c3, and_self, if_true] at k
  by_cases c4 : A 0 1 = 6
  · simp only [c4, if_true] at k
    simp only [i150_0, i150_1, i150_2, i150_3, i150_6, i150_9, i150_12, i150_13, i150_14, i150_15, i150_18, i150_21, i150_24, i150_25, i150_26, i150_27, i150_30, i150_33, i150_36, i150_37, i150_38, i150_41, i150_42, i150_43, i150_46, i150_47, i150_48, i150_50, i150_53, i150_54, i150_55, i150_58, i150_59, i150_61, i150_63, i150_64, i150_67, i150_68, i150_69, i150_70, i150_71, i150_73, i150_74, i150_77, i150_79, i150_80, i150_81, i150_82, i150_83, i150_84, i150_87, i150_89, i150_90, i150_91, i150_92, i150_93, i150_94, i150_97, i150_99, i150_100, i150_101, i150_102, i150_104, i150_105, i150_106, i150_107, i150_110, i150_112, i150_113, i150_114, i150_115, i150_117, i150_118, i150_119, i150_120, i150_123, i150_125, i150_126, i150_127, i150_128, i150_129, i150_130, i150_133, i150_135, i150_136, i150_137, i150_138, i150_139, i150_140, i150_143, i150_145, i150_147, i150_148, i150_149, i150_150, i150_151, i150_154, i150_155, i150_156, i150_157, i150_158, i150_159, i150_160, i150_161, i150_164, i150_165, i150_166, i150_167, i150_168, i150_e, true_and, and_true, eq_self, true_or, or_true, bi_01, mx_nl_i, mx_nl_r, mx_nl_n, mx_nl_f, mx_nl_d, c_in, Option.toList_some, Option.toList_none, List.nil_append, List.cons_append, lj0a, lj0b, lj1a, lj1b, lj2a, lj2b, lj3a, lj3b, lj4a, lj4b, lj5a, lj5b, lj6a, lj6b, lj7a, lj7b, lj8a, lj8b, lj9a, lj9b, lj10a, lj10b, lj11a, lj11b, lj12a, lj12b, lj13a, lj13b, lj14a, lj14b, lj15a, lj15b, lj16a, lj16b, lj17a, lj17b, lj18a, lj18b, lj19a, lj19b, c1, c2, c3, c4, bi_eq0, decide_true, and_self, if_true, if_false, reduceCtorEq, not_false_eq_true, not_true_eq_false, ob_co r.o, c_f4 r, mo_gk r.o, mo_gv r.o, ar_ik g0, ar_ia g0, mx_k0, mx_t0]
    exact k.er r ok
  · have hlt : ns < 6 := by
      have : ¬ ns = 6 := fun e => c4 (by rw [e1, e]; rfl)
      omega
    rw [if_neg c4, e1, nI_clamp (show ns < 2 ^ 31 by omega)] at k
    have x0 : (20 + 8 * nI ns : Int32) = nI (20 + 8 * ns) := by
      show nI 20 + nI 8 * nI ns = _
      rw [pk_mul, nI_add]
    have y0 : (nI (20 + 8 * ns) + 0 : Int32) = nI (20 + 8 * ns + 0) := nI_add _ 0
    have y1 : (nI (20 + 8 * ns) + 1 : Int32) = nI (20 + 8 * ns + 1) := nI_add _ 1
    have y2 : (nI (20 + 8 * ns) + 2 : Int32) = nI (20 + 8 * ns + 2) := nI_add _ 2
    have y3 : (nI (20 + 8 * ns) + 3 : Int32) = nI (20 + 8 * ns + 3) := nI_add _ 3
    have y4 : (nI (20 + 8 * ns) + 4 : Int32) = nI (20 + 8 * ns + 4) := nI_add _ 4
    have y5 : (nI (20 + 8 * ns) + 5 : Int32) = nI (20 + 8 * ns + 5) := nI_add _ 5
    have y6 : (nI (20 + 8 * ns) + 6 : Int32) = nI (20 + 8 * ns + 6) := nI_add _ 6
    have z : ∀ j, j < 7 → mx_in (nI (20 + 8 * ns + j)) 280 = true := fun j hj => mx_inN (by omega) (by decide)
    have w : ∀ j, j < 7 → (nI (20 + 8 * ns + j)).toNatClampNeg = 20 + 8 * ns + j := fun j hj => nI_clamp (by omega)
    have gs : ∀ f, (h.set 97 (.inl (0, 280, .inl f)))[97]? = some (.inl (0, 280, .inl f)) := fun f => mx_gss (by rw [g0]; rfl)
    have os : ∀ f, (h.set 97 (.inl (0, 280, .inl f)))[96]? = some (.inr (12, mof v)) := fun f => by rw [List.getElem?_set_ne (by decide)]; exact r.o
    have c4' : ¬ (nI ns : Int32) = 6 := by rw [← e1]; exact c4
    have u1 : ∀ (f : Nat → Int32) (j : Nat) (y : Int32), upd f (20 + 8 * ns + j) y 1 = f 1 := fun f j y => by unfold upd; rw [if_neg (by omega)]
    simp only [i150_0, i150_1, i150_2, i150_3, i150_6, i150_9, i150_12, i150_13, i150_14, i150_15, i150_18, i150_21, i150_24, i150_25, i150_26, i150_27, i150_30, i150_33, i150_36, i150_37, i150_38, i150_41, i150_42, i150_43, i150_46, i150_47, i150_48, i150_50, i150_53, i150_54, i150_55, i150_58, i150_59, i150_61, i150_63, i150_64, i150_67, i150_68, i150_69, i150_70, i150_71, i150_73, i150_74, i150_77, i150_79, i150_80, i150_81, i150_82, i150_83, i150_84, i150_87, i150_89, i150_90, i150_91, i150_92, i150_93, i150_94, i150_97, i150_99, i150_100, i150_101, i150_102, i150_104, i150_105, i150_106, i150_107, i150_110, i150_112, i150_113, i150_114, i150_115, i150_117, i150_118, i150_119, i150_120, i150_123, i150_125, i150_126, i150_127, i150_128, i150_129, i150_130, i150_133, i150_135, i150_136, i150_137, i150_138, i150_139, i150_140, i150_143, i150_145, i150_147, i150_148, i150_149, i150_150, i150_151, i150_154, i150_155, i150_156, i150_157, i150_158, i150_159, i150_160, i150_161, i150_164, i150_165, i150_166, i150_167, i150_168, i150_e, true_and, and_true, eq_self, true_or, or_true, bi_01, mx_nl_i, mx_nl_r, mx_nl_n, mx_nl_f, mx_nl_d, c_in, Option.toList_some, Option.toList_none, List.nil_append, List.cons_append, lj0a, lj0b, lj1a, lj1b, lj2a, lj2b, lj3a, lj3b, lj4a, lj4b, lj5a, lj5b, lj6a, lj6b, lj7a, lj7b, lj8a, lj8b, lj9a, lj9b, lj10a, lj10b, lj11a, lj11b, lj12a, lj12b, lj13a, lj13b, lj14a, lj14b, lj15a, lj15b, lj16a, lj16b, lj17a, lj17b, lj18a, lj18b, lj19a, lj19b, c1, c2, c3, bi_eq0, decide_true, and_self, if_true, if_false, reduceCtorEq, not_false_eq_true, mo_gk r.o, mo_gv r.o, ar_ik g0, ar_ia g0, ar_is g0, mx_k0, mx_t0, e1, c4', x0, y0, y1, y2, y3, y4, y5, y6, z 0 (by decide), z 1 (by decide), z 2 (by decide), z 3 (by decide), z 4 (by decide), z 5 (by decide), z 6 (by decide), w 0 (by decide), w 1 (by decide), w 2 (by decide), w 3 (by decide), w 4 (by decide), w 5 (by decide), w 6 (by decide), mo_gk (os _), mo_gv (os _), ar_ik (gs _), ar_ia (gs _), ar_is (gs _), List.set_set, ne_eq, show ¬ ((10 : Int32) = 0) from by decide, u1, pk_us]
    have e3 : (nI ns + 1 - 1 : Int32) = nI ns := by rw [nI_1, nI_pred]
    rw [e3]
    have := k.dd r ok
    unfold sel_ at this
    rw [e1] at this
    exact this
end R8
