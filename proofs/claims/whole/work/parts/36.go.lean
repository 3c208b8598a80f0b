/-! the reference: a sort goes from seller to seller; a day; days -/
abbrev MXGf : Type := Nat → Int32 → Int32 → Int32 → Int32 → Int32
def TE (m m' : Nat → Int32) : Prop := ∀ j, 104 ≤ j → m' j = m j
theorem TE.rf (m : Nat → Int32) : TE m m := fun _ _ => rfl
theorem TE.tr {a b c : Nat → Int32} (h1 : TE a b) (h2 : TE b c) : TE a c := fun j hj => (h2 j hj).trans (h1 j hj)
theorem TE.up {m : Nat → Int32} {i : Nat} {x : Int32} (hi : i < 104) : TE m (upd m i x) := fun j hj => by unfold upd; rw [if_neg (by omega)]
theorem G_TE {m m' : Nat → Int32} (h : TE m m') : G_ m' = G_ m := by
  funext u a b c f
  unfold G_
  rw [h (104 + u) (by omega)]
  have : (fun j => m' (126 + 50 * u + j)) = (fun j => m (126 + 50 * u + j)) := by funext j; exact h _ (by omega)
  rw [this]
theorem TO_TE {m m' : Nat → Int32} {u : Nat} (h : TE m m') (t : TO m u) : TO m' u := by
  unfold TO at t ⊢
  rw [h (104 + u) (by omega)]
  have : (fun j => m' (126 + 50 * u + j)) = (fun j => m (126 + 50 * u + j)) := by funext j; exact h _ (by omega)
  rw [this]
  exact t
def b1_ (G : MXGf) (m : Nat → Int32) (s b : Nat) (f th : Int32) : (Nat → Int32) × Int32 :=
  if G 1 (m (20 + 8 * s + 6)) f (m (70 + 4 * b + 2)) (m 0) = 0 then (m, th)
  else (ea_ (upd m (20 + 8 * s + 4) (m (20 + 8 * s + 4) - (if m (20 + 8 * s + 4) ≤ th then m (20 + 8 * s + 4) else th))) s ((if m (20 + 8 * s + 4) ≤ th then m (20 + 8 * s + 4) else th) * m (20 + 8 * s + 6)), th - (if m (20 + 8 * s + 4) ≤ th then m (20 + 8 * s + 4) else th))
def gl_ (G : MXGf) (ns b : Nat) (f : Int32) : Nat → (Nat → Int32) → (Nat → Int32) → Int32 → (Nat → Int32) × Int32
  | 0, m, _, th => (m, th)
  | n + 1, m, wa, th => if ch_ m wa ns < 0 ∨ th ≤ 0 then (m, th) else gl_ G ns b f n (b1_ G m (ch_ m wa ns).toNatClampNeg b f th).1 (upd wa (ch_ m wa ns).toNatClampNeg 1) (b1_ G m (ch_ m wa ns).toNatClampNeg b f th).2
def go_ (G : MXGf) (m : Nat → Int32) (ns b : Nat) : Nat → Int32 :=
  upd (gl_ G ns b (fe_ m b) 6 m (fun _ => 0) (m (70 + 4 * b + 3) + m (70 + 4 * b + 0))).1 (70 + 4 * b + 3) (if m (70 + 4 * b + 2) = 0 then 0 else hd_ (gl_ G ns b (fe_ m b) 6 m (fun _ => 0) (m (70 + 4 * b + 3) + m (70 + 4 * b + 0))).2 0 99)
def zb (x : Int32) : Nat := if x = 0 then 1 else 0
def cz (wa : Nat → Int32) : Nat := zb (wa 0) + zb (wa 1) + zb (wa 2) + zb (wa 3) + zb (wa 4) + zb (wa 5)
theorem cz_up {wa : Nat → Int32} {s : Nat} (hs : s < 6) (hw : wa s = 0) : cz (upd wa s 1) + 1 = cz wa := by
  have z1 : zb 1 = 0 := rfl
  have z0 : zb 0 = 1 := rfl
  match s, hs with
  | 0, _ => simp [cz, upd, hw, z1, z0]; omega
  | 1, _ => simp [cz, upd, hw, z1, z0]; omega
  | 2, _ => simp [cz, upd, hw, z1, z0]; omega
  | 3, _ => simp [cz, upd, hw, z1, z0]; omega
  | 4, _ => simp [cz, upd, hw, z1, z0]; omega
  | 5, _ => simp [cz, upd, hw, z1, z0]
  | n + 6, h => omega
theorem cz_0 {wa : Nat → Int32} {s : Nat} (hs : s < 6) (h : cz wa = 0) : ¬ wa s = 0 := by
  intro hw
  have := cz_up hs hw
  omega
theorem ch_cg {m wa wa' : Nat → Int32} (hw : ∀ j, j < 6 → wa' j = wa j) : ∀ n, n ≤ 6 → ch_ m wa' n = ch_ m wa n
  | 0, _ => rfl
  | n + 1, hn => by
    unfold ch_
    rw [ch_cg hw n (by omega), hw n (by omega)]
theorem gl_cg {G : MXGf} {ns b : Nat} {f : Int32} (hns : ns ≤ 6) : ∀ (n : Nat) (m wa wa' : Nat → Int32) (th : Int32), (∀ j, j < 6 → wa' j = wa j) → gl_ G ns b f n m wa' th = gl_ G ns b f n m wa th
  | 0, m, wa, wa', th, _ => rfl
  | n + 1, m, wa, wa', th, hw => by
    unfold gl_
    rw [ch_cg hw ns hns]
    split
    · rfl
    · refine gl_cg hns n _ _ _ _ (fun j hj => ?_)
      unfold upd
      split
      · rfl
      · exact hw j hj
theorem b1_te {G : MXGf} {m : Nat → Int32} {s b : Nat} {f th : Int32} (hs : s < 6) : TE m (b1_ G m s b f th).1 := by
  unfold b1_
  split
  · exact TE.rf m
  · exact (TE.up (by omega)).tr (TE.up (by omega))
/-- what a walk among the sellers leaves as it was: all but stocks and purses -/
def KP (m m' : Nat → Int32) : Prop := ∀ j, ¬ (20 ≤ j ∧ j < 68 ∧ ((j - 20) % 8 = 4 ∨ (j - 20) % 8 = 5)) → m' j = m j
theorem KP.rf (m : Nat → Int32) : KP m m := fun _ _ => rfl
theorem KP.tr {a b c : Nat → Int32} (h1 : KP a b) (h2 : KP b c) : KP a c := fun j hj => (h2 j hj).trans (h1 j hj)
theorem KP.te {m m' : Nat → Int32} (h : KP m m') : TE m m' := fun j hj => h j (by omega)
theorem b1_kp {G : MXGf} {m : Nat → Int32} {s b : Nat} {f th : Int32} (hs : s < 6) : KP m (b1_ G m s b f th).1 := by
  unfold b1_
  split
  · exact KP.rf m
  · intro j hj
    unfold ea_
    simp only [upd]
    rw [if_neg (by omega), if_neg (by omega)]
theorem gl_kp {G : MXGf} {ns b : Nat} {f : Int32} (hns : ns ≤ 6) : ∀ (n : Nat) (m wa : Nat → Int32) (th : Int32), KP m (gl_ G ns b f n m wa th).1
  | 0, m, wa, th => KP.rf m
  | n + 1, m, wa, th => by
    unfold gl_
    split
    · exact KP.rf m
    · rename_i hc
      rcases ch_in m wa ns hns with he | ⟨s, hs, he, -⟩
      · exact absurd (Or.inl (by rw [he]; decide)) hc
      · rw [he, nI_clamp (by omega)]
        exact (b1_kp (by omega)).tr (gl_kp hns n _ _ _)
theorem go_te {G : MXGf} {m : Nat → Int32} {ns b : Nat} (hns : ns ≤ 6) (hb : b < 8) : TE m (go_ G m ns b) := (gl_kp hns _ _ _ _).te.tr (TE.up (by omega))
section R6
variable {X : MXX} {d : Nat} {h : MXH} {Q : MXP} {v : Nat → Int32} {A : Nat → Nat → Int32}
def S2 (ai : Nat) (A A' : Nat → Nat → Int32) : Prop := ∀ j, j ≠ ai → j ≠ 4 → j ≠ 6 → j ≠ 7 → A' j = A j
theorem S2.tr {ai : Nat} {A B C : Nat → Nat → Int32} (h1 : S2 ai A B) (h2 : S2 ai B C) : S2 ai A C := fun j a b c d => (h2 j a b c d).trans (h1 j a b c d)
theorem SC.s2 {ai : Nat} {A B : Nat → Nat → Int32} (h1 : SC A B) : S2 ai A B := fun j _ b c _ => h1 j b c
theorem S2.up {ai : Nat} {A : Nat → Nat → Int32} {f : Nat → Int32} : S2 ai A (up2 A ai f) := fun j a _ _ _ => up2_n a
theorem S2.up7 {ai : Nat} {A : Nat → Nat → Int32} {f : Nat → Int32} : S2 ai A (up2 A 7 f) := fun j _ _ _ a => up2_n a
theorem vnb0 : vp_nar .boolean 0 = 0 := rfl
theorem vnb1 : vp_nar .boolean 1 = 1 := rfl
theorem TO_S2 {ai u : Nat} {A A' : Nat → Nat → Int32} (ht : TO (A 0) u) (hs : S2 ai A A') (hi : ai < 2) (hte : TE (A ai) (A' ai)) : TO (A' 0) u := by
  by_cases e : ai = 0
  · subst e; exact TO_TE hte ht
  · rw [hs 0 (by omega) (by decide) (by decide) (by decide)]; exact ht
theorem G_S2 {ai : Nat} {A A' : Nat → Nat → Int32} (hs : S2 ai A A') (hi : ai < 2) (hte : TE (A ai) (A' ai)) : G_ (A' 0) = G_ (A 0) := by
  by_cases e : ai = 0
  · subst e; exact G_TE hte
  · rw [hs 0 (by omega) (by decide) (by decide) (by decide)]
set_option maxHeartbeats 1000000 in
theorem c_go_l {ai ns b : Nat} {f : Int32} (hi : ai < 2) (hns : ns ≤ 6) (hb : b < 8) {P : MXH → (Nat → Nat → Int32) → Int32 → Prop}
    (fin : ∀ (h' : MXH) (A' : Nat → Nat → Int32) (th : Int32) (w5 w6 w7 : Value), RW h' v A' → P h' A' th → ex_ X (d + 3) 169 167 [.ref 96, .ref (97 + ai), .int (nI b), .int th, .int f, w5, w6, w7] [] h' Q) :
    ∀ (n : Nat) (h : MXH) (A : Nat → Nat → Int32) (th : Int32) (w6 w7 : Value), RW h v A → TO (A 0) 1 → A ai 1 = nI ns → cz (A 7) ≤ n → mx_nl w6 = true →
      (∀ h' A', RW h' v A' → FR h h' → S2 ai A A' → A' ai = (gl_ (G_ (A 0)) ns b f n (A ai) (A 7) th).1 → P h' A' (gl_ (G_ (A 0)) ns b f n (A ai) (A 7) th).2) →
      ex_ X (d + 3) 169 52 [.ref 96, .ref (97 + ai), .int (nI b), .int th, .int f, .int (ch_ (A ai) (A 7) ns), w6, w7] [] h Q := by
  intro n
  induction n with
  | zero =>
    intro h A th w6 w7 r ht hn1 hz hw hP
    rw [i169_52]
    rcases ch_in (A ai) (A 7) ns hns with he | ⟨s, hs, he, hw0, -⟩
    · simp only [i169_0, i169_1, i169_2, i169_3, i169_6, i169_7, i169_8, i169_9, i169_12, i169_13, i169_14, i169_15, i169_16, i169_19, i169_21, i169_22, i169_24, i169_26, i169_28, i169_31, i169_32, i169_35, i169_37, i169_38, i169_39, i169_42, i169_45, i169_46, i169_47, i169_50, i169_54, i169_57, i169_58, i169_61, i169_62, i169_65, i169_67, i169_68, i169_69, i169_70, i169_72, i169_74, i169_77, i169_79, i169_80, i169_81, i169_83, i169_85, i169_86, i169_87, i169_88, i169_91, i169_92, i169_93, i169_94, i169_97, i169_100, i169_101, i169_102, i169_104, i169_105, i169_108, i169_111, i169_112, i169_115, i169_116, i169_118, i169_119, i169_122, i169_124, i169_125, i169_127, i169_129, i169_131, i169_132, i169_133, i169_134, i169_135, i169_136, i169_137, i169_139, i169_140, i169_141, i169_142, i169_144, i169_146, i169_148, i169_149, i169_152, i169_153, i169_155, i169_156, i169_157, i169_158, i169_159, i169_162, i169_164, i169_168, i169_170, i169_171, i169_172, i169_173, i169_174, i169_175, i169_176, i169_177, i169_178, i169_179, i169_182, i169_185, i169_186, i169_189, i169_190, i169_191, i169_193, i169_196, i169_197, i169_e, he, show ((-1 : Int32) < 0) from by decide, if_true]
      exact fin h A th _ _ _ r (hP h A r (FR.rf h) (fun _ _ _ _ _ => rfl) rfl)
    · exact absurd hw0 (cz_0 (by omega) (by omega))
  | succ n ih =>
    intro h A th w6 w7 r ht hn1 hz hw hP
    rw [i169_52]
    rcases ch_in (A ai) (A 7) ns hns with he | ⟨s, hs, he, hw0, hst, hsl⟩
    · simp only [i169_0, i169_1, i169_2, i169_3, i169_6, i169_7, i169_8, i169_9, i169_12, i169_13, i169_14, i169_15, i169_16, i169_19, i169_21, i169_22, i169_24, i169_26, i169_28, i169_31, i169_32, i169_35, i169_37, i169_38, i169_39, i169_42, i169_45, i169_46, i169_47, i169_50, i169_54, i169_57, i169_58, i169_61, i169_62, i169_65, i169_67, i169_68, i169_69, i169_70, i169_72, i169_74, i169_77, i169_79, i169_80, i169_81, i169_83, i169_85, i169_86, i169_87, i169_88, i169_91, i169_92, i169_93, i169_94, i169_97, i169_100, i169_101, i169_102, i169_104, i169_105, i169_108, i169_111, i169_112, i169_115, i169_116, i169_118, i169_119, i169_122, i169_124, i169_125, i169_127, i169_129, i169_131, i169_132, i169_133, i169_134, i169_135, i169_136, i169_137, i169_139, i169_140, i169_141, i169_142, i169_144, i169_146, i169_148, i169_149, i169_152, i169_153, i169_155, i169_156, i169_157, i169_158, i169_159, i169_162, i169_164, i169_168, i169_170, i169_171, i169_172, i169_173, i169_174, i169_175, i169_176, i169_177, i169_178, i169_179, i169_182, i169_185, i169_186, i169_189, i169_190, i169_191, i169_193, i169_196, i169_197, i169_e, he, show ((-1 : Int32) < 0) from by decide, if_true]
      refine fin h A th _ _ _ r (?_)
      have := hP h A r (FR.rf h) (fun _ _ _ _ _ => rfl)
      simp only [gl_, he, show ((-1 : Int32) < 0) from by decide, true_or, if_true] at this
      exact this trivial
    · have hs6 : s < 6 := by omega
      have hneg : ¬ (nI s : Int32) < 0 := nI_pos (by omega)
      by_cases hth : th ≤ 0
      · simp only [i169_0, i169_1, i169_2, i169_3, i169_6, i169_7, i169_8, i169_9, i169_12, i169_13, i169_14, i169_15, i169_16, i169_19, i169_21, i169_22, i169_24, i169_26, i169_28, i169_31, i169_32, i169_35, i169_37, i169_38, i169_39, i169_42, i169_45, i169_46, i169_47, i169_50, i169_54, i169_57, i169_58, i169_61, i169_62, i169_65, i169_67, i169_68, i169_69, i169_70, i169_72, i169_74, i169_77, i169_79, i169_80, i169_81, i169_83, i169_85, i169_86, i169_87, i169_88, i169_91, i169_92, i169_93, i169_94, i169_97, i169_100, i169_101, i169_102, i169_104, i169_105, i169_108, i169_111, i169_112, i169_115, i169_116, i169_118, i169_119, i169_122, i169_124, i169_125, i169_127, i169_129, i169_131, i169_132, i169_133, i169_134, i169_135, i169_136, i169_137, i169_139, i169_140, i169_141, i169_142, i169_144, i169_146, i169_148, i169_149, i169_152, i169_153, i169_155, i169_156, i169_157, i169_158, i169_159, i169_162, i169_164, i169_168, i169_170, i169_171, i169_172, i169_173, i169_174, i169_175, i169_176, i169_177, i169_178, i169_179, i169_182, i169_185, i169_186, i169_189, i169_190, i169_191, i169_193, i169_196, i169_197, i169_e, he, hneg, hth, if_true, if_false]
        refine fin h A th _ _ _ r (?_)
        have := hP h A r (FR.rf h) (fun _ _ _ _ _ => rfl)
        simp only [gl_, hth, or_true, if_true] at this
        exact this trivial
      · have ha := r.ga hi
        have g7 := r.g7
        have w7' : mx_in (nI s) 6 = true := mx_inN hs6 (by decide)
        have r1 := r.s7 (f := upd (A 7) s 1)
        have ha1 := r1.ga hi
        rw [up2_n (by omega)] at ha1
        have hA0 : up2 A 7 (upd (A 7) s 1) 0 = A 0 := up2_n (by decide)
        simp only [gl_, he, hneg, hth, or_self, if_false, nI_clamp (show s < 2 ^ 31 by omega)] at hP
        simp only [i169_0, i169_1, i169_2, i169_3, i169_6, i169_7, i169_8, i169_9, i169_12, i169_13, i169_14, i169_15, i169_16, i169_19, i169_21, i169_22, i169_24, i169_26, i169_28, i169_31, i169_32, i169_35, i169_37, i169_38, i169_39, i169_42, i169_45, i169_46, i169_47, i169_50, i169_54, i169_57, i169_58, i169_61, i169_62, i169_65, i169_67, i169_68, i169_69, i169_70, i169_72, i169_74, i169_77, i169_79, i169_80, i169_81, i169_83, i169_85, i169_86, i169_87, i169_88, i169_91, i169_92, i169_93, i169_94, i169_97, i169_100, i169_101, i169_102, i169_104, i169_105, i169_108, i169_111, i169_112, i169_115, i169_116, i169_118, i169_119, i169_122, i169_124, i169_125, i169_127, i169_129, i169_131, i169_132, i169_133, i169_134, i169_135, i169_136, i169_137, i169_139, i169_140, i169_141, i169_142, i169_144, i169_146, i169_148, i169_149, i169_152, i169_153, i169_155, i169_156, i169_157, i169_158, i169_159, i169_162, i169_164, i169_168, i169_170, i169_171, i169_172, i169_173, i169_174, i169_175, i169_176, i169_177, i169_178, i169_179, i169_182, i169_185, i169_186, i169_189, i169_190, i169_191, i169_193, i169_196, i169_197, i169_e, he, hneg, hth, if_false, mo_gk r.o, mo_gv r.o, br_bk g7, br_bs g7, w7', vnb1, nI_clamp (show s < 2 ^ 31 by omega), c_se6 ha1 hs6, c_so2 ha1 hb, ar_ik ha1, ar_ia ha1, mx_k0, mx_t0, hw, ob_co r1.o, Option.toList_some, Option.toList_none, List.nil_append, List.cons_append, true_and, and_true, eq_self, true_or, or_true, bi_01, mx_nl_i, mx_nl_r, mx_nl_n, mx_nl_f, mx_nl_d]
        refine c_givesOf r1 (u := 1) (by decide) (by rw [hA0]; exact ht) (fun h' A' r' fr sc => ?_)
        rw [hA0]
        have ea : A' ai = A ai := by rw [sc ai (by omega) (by omega), up2_n (by omega)]
        have e7 : A' 7 = upd (A 7) s 1 := by rw [sc 7 (by decide) (by decide), up2_s]
        have e0 : A' 0 = A 0 := by rw [sc 0 (by decide) (by decide), hA0]
        have fr0 : FR h h' := FR.tr (FR.set (by decide) (by decide)) fr
        have s2 : S2 ai A A' := (S2.up7).tr sc.s2
        have ha' := r'.ga hi
        rw [ea] at ha'
        have hcz : cz (A' 7) ≤ n := by rw [e7]; have := cz_up hs6 hw0; omega
        by_cases hg : G_ (A 0) 1 (A ai (20 + 8 * s + 6)) f (A ai (70 + 4 * b + 2)) (A ai 0) = 0
        · simp only [b1_, hg, if_true] at hP
          simp only [i169_0, i169_1, i169_2, i169_3, i169_6, i169_7, i169_8, i169_9, i169_12, i169_13, i169_14, i169_15, i169_16, i169_19, i169_21, i169_22, i169_24, i169_26, i169_28, i169_31, i169_32, i169_35, i169_37, i169_38, i169_39, i169_42, i169_45, i169_46, i169_47, i169_50, i169_54, i169_57, i169_58, i169_61, i169_62, i169_65, i169_67, i169_68, i169_69, i169_70, i169_72, i169_74, i169_77, i169_79, i169_80, i169_81, i169_83, i169_85, i169_86, i169_87, i169_88, i169_91, i169_92, i169_93, i169_94, i169_97, i169_100, i169_101, i169_102, i169_104, i169_105, i169_108, i169_111, i169_112, i169_115, i169_116, i169_118, i169_119, i169_122, i169_124, i169_125, i169_127, i169_129, i169_131, i169_132, i169_133, i169_134, i169_135, i169_136, i169_137, i169_139, i169_140, i169_141, i169_142, i169_144, i169_146, i169_148, i169_149, i169_152, i169_153, i169_155, i169_156, i169_157, i169_158, i169_159, i169_162, i169_164, i169_168, i169_170, i169_171, i169_172, i169_173, i169_174, i169_175, i169_176, i169_177, i169_178, i169_179, i169_182, i169_185, i169_186, i169_189, i169_190, i169_191, i169_193, i169_196, i169_197, i169_e, hg, if_true, ob_co r'.o, c_cheapest r' hi hns (by rw [ea]; exact hn1), Option.toList_some, Option.toList_none, List.nil_append, List.cons_append, true_and, and_true, eq_self, true_or, or_true, bi_01, mx_nl_i, mx_nl_r, mx_nl_n, mx_nl_f, mx_nl_d]
          refine ih h' A' th _ w7 r' (by rw [e0]; exact ht) (by rw [ea]; exact hn1) hcz rfl ?_
          intro h2 A2 r2 fr2 s22 q
          rw [e0, ea, e7] at q ⊢
          exact hP h2 A2 r2 (fr0.tr fr2) (s2.tr s22) q
        · have e4 : (20 + 8 * nI s + 4 : Int32) = nI (20 + 8 * s + 4) := mx_ix 20 8 s 4
          have i4 : mx_in (nI (20 + 8 * s + 4)) 280 = true := mx_inN (by omega) (by decide)
          have key : ∀ bu : Int32, (bu = if A ai (20 + 8 * s + 4) ≤ th then A ai (20 + 8 * s + 4) else th) →
              ex_ X (d + 3) 169 122 [.ref 96, .ref (97 + ai), .int (nI b), .int th, .int f, .int (nI s), .int (A ai (20 + 8 * s + 6)), w7] [.int bu] h' Q := by
            intro bu hbu
            have r3 := r'.sa (f := upd (A ai) (20 + 8 * s + 4) (A ai (20 + 8 * s + 4) - bu)) hi
            have ha3 := r3.ga hi
            rw [up2_s] at ha3
            have r4 := r'.sa (f := ea_ (upd (A ai) (20 + 8 * s + 4) (A ai (20 + 8 * s + 4) - bu)) s (bu * A ai (20 + 8 * s + 6))) hi
            have hn1' : up2 A' ai (ea_ (upd (A ai) (20 + 8 * s + 4) (A ai (20 + 8 * s + 4) - bu)) s (bu * A ai (20 + 8 * s + 6))) ai 1 = nI ns := by
              rw [up2_s]
              unfold ea_
              simp only [upd]
              rw [if_neg (by omega), if_neg (by omega)]
              exact hn1
            simp only [i169_0, i169_1, i169_2, i169_3, i169_6, i169_7, i169_8, i169_9, i169_12, i169_13, i169_14, i169_15, i169_16, i169_19, i169_21, i169_22, i169_24, i169_26, i169_28, i169_31, i169_32, i169_35, i169_37, i169_38, i169_39, i169_42, i169_45, i169_46, i169_47, i169_50, i169_54, i169_57, i169_58, i169_61, i169_62, i169_65, i169_67, i169_68, i169_69, i169_70, i169_72, i169_74, i169_77, i169_79, i169_80, i169_81, i169_83, i169_85, i169_86, i169_87, i169_88, i169_91, i169_92, i169_93, i169_94, i169_97, i169_100, i169_101, i169_102, i169_104, i169_105, i169_108, i169_111, i169_112, i169_115, i169_116, i169_118, i169_119, i169_122, i169_124, i169_125, i169_127, i169_129, i169_131, i169_132, i169_133, i169_134, i169_135, i169_136, i169_137, i169_139, i169_140, i169_141, i169_142, i169_144, i169_146, i169_148, i169_149, i169_152, i169_153, i169_155, i169_156, i169_157, i169_158, i169_159, i169_162, i169_164, i169_168, i169_170, i169_171, i169_172, i169_173, i169_174, i169_175, i169_176, i169_177, i169_178, i169_179, i169_182, i169_185, i169_186, i169_189, i169_190, i169_191, i169_193, i169_196, i169_197, i169_e, e4, ar_ik ha', ar_ia ha', ar_is ha', i4, nI_clamp (show 20 + 8 * s + 4 < 2 ^ 31 by omega), c_earns ha3 hs6, List.set_set, ob_co r4.o, c_cheapest r4 hi hns hn1', Option.toList_some, Option.toList_none, List.nil_append, List.cons_append, true_and, and_true, eq_self, true_or, or_true, bi_01, mx_nl_i, mx_nl_r, mx_nl_n, mx_nl_f, mx_nl_d]
            have hte : TE (A' ai) (ea_ (upd (A ai) (20 + 8 * s + 4) (A ai (20 + 8 * s + 4) - bu)) s (bu * A ai (20 + 8 * s + 6))) := by
              rw [ea]; exact (TE.up (by omega)).tr (TE.up (by omega))
            have ht4 : TO (up2 A' ai (ea_ (upd (A ai) (20 + 8 * s + 4) (A ai (20 + 8 * s + 4) - bu)) s (bu * A ai (20 + 8 * s + 6))) 0) 1 := TO_S2 (by rw [e0]; exact ht) S2.up hi (by rw [up2_s]; exact hte)
            have hG4 : G_ (up2 A' ai (ea_ (upd (A ai) (20 + 8 * s + 4) (A ai (20 + 8 * s + 4) - bu)) s (bu * A ai (20 + 8 * s + 6))) 0) = G_ (A 0) := by rw [G_S2 S2.up hi (by rw [up2_s]; exact hte), e0]
            have h74 : up2 A' ai (ea_ (upd (A ai) (20 + 8 * s + 4) (A ai (20 + 8 * s + 4) - bu)) s (bu * A ai (20 + 8 * s + 6))) 7 = upd (A 7) s 1 := by rw [up2_n (by omega), e7]
            refine ih _ _ (th - bu) _ (.int bu) r4 ht4 hn1' (by rw [h74, ← e7]; exact hcz) rfl ?_
            intro h2 A2 r2 fr2 s22 q
            rw [hG4, h74, up2_s] at q ⊢
            simp only [b1_, hg, if_false, ← hbu] at hP
            exact hP h2 A2 r2 ((fr0.tr (FR.set (by omega) (by omega))).tr fr2) ((s2.tr S2.up).tr s22) q
          by_cases hbt : A ai (20 + 8 * s + 4) ≤ th
          · simp only [i169_0, i169_1, i169_2, i169_3, i169_6, i169_7, i169_8, i169_9, i169_12, i169_13, i169_14, i169_15, i169_16, i169_19, i169_21, i169_22, i169_24, i169_26, i169_28, i169_31, i169_32, i169_35, i169_37, i169_38, i169_39, i169_42, i169_45, i169_46, i169_47, i169_50, i169_54, i169_57, i169_58, i169_61, i169_62, i169_65, i169_67, i169_68, i169_69, i169_70, i169_72, i169_74, i169_77, i169_79, i169_80, i169_81, i169_83, i169_85, i169_86, i169_87, i169_88, i169_91, i169_92, i169_93, i169_94, i169_97, i169_100, i169_101, i169_102, i169_104, i169_105, i169_108, i169_111, i169_112, i169_115, i169_116, i169_118, i169_119, i169_124, i169_125, i169_127, i169_129, i169_131, i169_132, i169_133, i169_134, i169_135, i169_136, i169_137, i169_139, i169_140, i169_141, i169_142, i169_144, i169_146, i169_148, i169_149, i169_152, i169_153, i169_155, i169_156, i169_157, i169_158, i169_159, i169_162, i169_164, i169_168, i169_170, i169_171, i169_172, i169_173, i169_174, i169_175, i169_176, i169_177, i169_178, i169_179, i169_182, i169_185, i169_186, i169_189, i169_190, i169_191, i169_193, i169_196, i169_197, i169_e, hg, if_false, c_se4 ha' hs6, hbt, if_true, Option.toList_some, Option.toList_none, List.nil_append, List.cons_append, true_and, and_true, eq_self, true_or, or_true, bi_01, mx_nl_i, mx_nl_r, mx_nl_n, mx_nl_f, mx_nl_d]
            exact key _ (by rw [if_pos hbt])
          · simp only [i169_0, i169_1, i169_2, i169_3, i169_6, i169_7, i169_8, i169_9, i169_12, i169_13, i169_14, i169_15, i169_16, i169_19, i169_21, i169_22, i169_24, i169_26, i169_28, i169_31, i169_32, i169_35, i169_37, i169_38, i169_39, i169_42, i169_45, i169_46, i169_47, i169_50, i169_54, i169_57, i169_58, i169_61, i169_62, i169_65, i169_67, i169_68, i169_69, i169_70, i169_72, i169_74, i169_77, i169_79, i169_80, i169_81, i169_83, i169_85, i169_86, i169_87, i169_88, i169_91, i169_92, i169_93, i169_94, i169_97, i169_100, i169_101, i169_102, i169_104, i169_105, i169_108, i169_111, i169_112, i169_115, i169_116, i169_118, i169_119, i169_124, i169_125, i169_127, i169_129, i169_131, i169_132, i169_133, i169_134, i169_135, i169_136, i169_137, i169_139, i169_140, i169_141, i169_142, i169_144, i169_146, i169_148, i169_149, i169_152, i169_153, i169_155, i169_156, i169_157, i169_158, i169_159, i169_162, i169_164, i169_168, i169_170, i169_171, i169_172, i169_173, i169_174, i169_175, i169_176, i169_177, i169_178, i169_179, i169_182, i169_185, i169_186, i169_189, i169_190, i169_191, i169_193, i169_196, i169_197, i169_e, hg, if_false, c_se4 ha' hs6, hbt, Option.toList_some, Option.toList_none, List.nil_append, List.cons_append, true_and, and_true, eq_self, true_or, or_true, bi_01, mx_nl_i, mx_nl_r, mx_nl_n, mx_nl_f, mx_nl_d]
            exact key _ (by rw [if_neg hbt])
theorem c_go_clr {ai b : Nat} {f th : Int32} {w6 w7 : Value} (hi : ai < 2)
    (fin : ∀ (h' : MXH) (A' : Nat → Nat → Int32) (w5 : Value), RW h' v A' → FR h h' → S2 ai A A' → A' ai = A ai → (∀ j, j < 6 → A' 7 j = 0) → ex_ X (d + 3) 169 45 [.ref 96, .ref (97 + ai), .int (nI b), .int th, .int f, w5, w6, w7] [] h' Q) :
    ∀ (n k : Nat) (h' : MXH) (A' : Nat → Nat → Int32), k + n = 6 → RW h' v A' → FR h h' → S2 ai A A' → A' ai = A ai → (∀ j, j < k → A' 7 j = 0) → ex_ X (d + 3) 169 24 [.ref 96, .ref (97 + ai), .int (nI b), .int th, .int f, .int (nI k), w6, w7] [] h' Q := by
  intro n
  induction n with
  | zero =>
    intro k h' A' hk r fr s2 ea hz
    have e : k = 6 := by omega
    subst e
    rw [i169_24]
    simp only [i169_0, i169_1, i169_2, i169_3, i169_6, i169_7, i169_8, i169_9, i169_12, i169_13, i169_14, i169_15, i169_16, i169_19, i169_21, i169_22, i169_26, i169_28, i169_31, i169_32, i169_35, i169_37, i169_38, i169_39, i169_42, i169_46, i169_47, i169_50, i169_52, i169_54, i169_57, i169_58, i169_61, i169_62, i169_65, i169_67, i169_68, i169_69, i169_70, i169_72, i169_74, i169_77, i169_79, i169_80, i169_81, i169_83, i169_85, i169_86, i169_87, i169_88, i169_91, i169_92, i169_93, i169_94, i169_97, i169_100, i169_101, i169_102, i169_104, i169_105, i169_108, i169_111, i169_112, i169_115, i169_116, i169_118, i169_119, i169_122, i169_124, i169_125, i169_127, i169_129, i169_131, i169_132, i169_133, i169_134, i169_135, i169_136, i169_137, i169_139, i169_140, i169_141, i169_142, i169_144, i169_146, i169_148, i169_149, i169_152, i169_153, i169_155, i169_156, i169_157, i169_158, i169_159, i169_162, i169_164, i169_167, i169_168, i169_170, i169_171, i169_172, i169_173, i169_174, i169_175, i169_176, i169_177, i169_178, i169_179, i169_182, i169_185, i169_186, i169_189, i169_190, i169_191, i169_193, i169_196, i169_197, i169_e, show ((6 : Int32) ≤ nI 6) from by decide, if_true]
    exact fin h' A' _ r fr s2 ea hz
  | succ n ih =>
    intro k h' A' hk r fr s2 ea hz
    have hc : ¬ ((6 : Int32) ≤ nI k) := by
      show ¬ (nI 6 ≤ nI k)
      rw [nI_leI (by decide) (by omega)]; omega
    have r1 := r.s7 (f := upd (A' 7) k 0)
    rw [i169_24]
    simp only [i169_0, i169_1, i169_2, i169_3, i169_6, i169_7, i169_8, i169_9, i169_12, i169_13, i169_14, i169_15, i169_16, i169_19, i169_21, i169_22, i169_26, i169_28, i169_31, i169_32, i169_35, i169_37, i169_38, i169_39, i169_42, i169_46, i169_47, i169_50, i169_52, i169_54, i169_57, i169_58, i169_61, i169_62, i169_65, i169_67, i169_68, i169_69, i169_70, i169_72, i169_74, i169_77, i169_79, i169_80, i169_81, i169_83, i169_85, i169_86, i169_87, i169_88, i169_91, i169_92, i169_93, i169_94, i169_97, i169_100, i169_101, i169_102, i169_104, i169_105, i169_108, i169_111, i169_112, i169_115, i169_116, i169_118, i169_119, i169_122, i169_124, i169_125, i169_127, i169_129, i169_131, i169_132, i169_133, i169_134, i169_135, i169_136, i169_137, i169_139, i169_140, i169_141, i169_142, i169_144, i169_146, i169_148, i169_149, i169_152, i169_153, i169_155, i169_156, i169_157, i169_158, i169_159, i169_162, i169_164, i169_167, i169_168, i169_170, i169_171, i169_172, i169_173, i169_174, i169_175, i169_176, i169_177, i169_178, i169_179, i169_182, i169_185, i169_186, i169_189, i169_190, i169_191, i169_193, i169_196, i169_197, i169_e, hc, if_false, mo_gk r.o, mo_gv r.o, br_bk r.g7, br_bs r.g7, mx_inN (show k < 6 by omega) (by decide), nI_clamp (show k < 2 ^ 31 by omega), vnb0, nI_1, true_and, and_true, eq_self, true_or, or_true, bi_01, mx_nl_i, mx_nl_r, mx_nl_n, mx_nl_f, mx_nl_d]
    refine ih (k + 1) _ _ (by omega) r1 (fr.tr (FR.set (by decide) (by decide))) (s2.tr S2.up7) (by rw [up2_n (by omega)]; exact ea) (fun j hj => ?_)
    rw [up2_s]
    unfold upd
    split
    · rfl
    · exact hz j (by omega)
set_option maxHeartbeats 1000000 in
theorem c_go (r : RW h v A) {ai ns b : Nat} (hi : ai < 2) (hns : ns ≤ 6) (hb : b < 8) (hn1 : A ai 1 = nI ns) (h3 : ∃ e : Nat, e < 3 ∧ A ai 3 = nI e) (ht : TO (A 0) 1)
    (k : ∀ h' A', RW h' v A' → FR h h' → S2 ai A A' → A' ai = go_ (G_ (A 0)) (A ai) ns b → Q none h') : ev_ X (d + 3) 169 [.ref 96, .ref (97 + ai), .int (nI b)] h Q := by
  have ha := r.ga hi
  simp only [i169_0, i169_1, i169_2, i169_3, i169_6, i169_7, i169_8, i169_9, i169_12, i169_13, i169_14, i169_15, i169_16, i169_19, i169_21, i169_22, i169_26, i169_28, i169_31, i169_32, i169_35, i169_37, i169_38, i169_39, i169_42, i169_45, i169_46, i169_47, i169_50, i169_52, i169_54, i169_57, i169_58, i169_61, i169_62, i169_65, i169_67, i169_68, i169_69, i169_70, i169_72, i169_74, i169_77, i169_79, i169_80, i169_81, i169_83, i169_85, i169_86, i169_87, i169_88, i169_91, i169_92, i169_93, i169_94, i169_97, i169_100, i169_101, i169_102, i169_104, i169_105, i169_108, i169_111, i169_112, i169_115, i169_116, i169_118, i169_119, i169_122, i169_124, i169_125, i169_127, i169_129, i169_131, i169_132, i169_133, i169_134, i169_135, i169_136, i169_137, i169_139, i169_140, i169_141, i169_142, i169_144, i169_146, i169_148, i169_149, i169_152, i169_153, i169_155, i169_156, i169_157, i169_158, i169_159, i169_162, i169_164, i169_167, i169_168, i169_170, i169_171, i169_172, i169_173, i169_174, i169_175, i169_176, i169_177, i169_178, i169_179, i169_182, i169_185, i169_186, i169_189, i169_190, i169_191, i169_193, i169_196, i169_197, i169_e, c_so3 ha hb, c_so0 ha hb, c_feels ha hb h3, Option.toList_some, Option.toList_none, List.nil_append, List.cons_append, true_and, and_true, eq_self, true_or, or_true, bi_01, mx_nl_i, mx_nl_r, mx_nl_n, mx_nl_f, mx_nl_d]
  refine c_go_clr (A := A) (h := h) hi ?_ 6 0 h A rfl r (FR.rf h) (fun _ _ _ _ _ => rfl) rfl (fun j hj => by omega)
  intro h1 A1 w5 r1 fr1 s21 ea1 hz1
  have ha1 := r1.ga hi
  have e0 : TO (A1 0) 1 := TO_S2 ht s21 hi (by rw [ea1]; exact TE.rf _)
  have eG : G_ (A1 0) = G_ (A 0) := G_S2 s21 hi (by rw [ea1]; exact TE.rf _)
  simp only [i169_0, i169_1, i169_2, i169_3, i169_6, i169_7, i169_8, i169_9, i169_12, i169_13, i169_14, i169_15, i169_16, i169_19, i169_21, i169_22, i169_24, i169_26, i169_28, i169_31, i169_32, i169_35, i169_37, i169_38, i169_39, i169_42, i169_45, i169_46, i169_47, i169_50, i169_54, i169_57, i169_58, i169_61, i169_62, i169_65, i169_67, i169_68, i169_69, i169_70, i169_72, i169_74, i169_77, i169_79, i169_80, i169_81, i169_83, i169_85, i169_86, i169_87, i169_88, i169_91, i169_92, i169_93, i169_94, i169_97, i169_100, i169_101, i169_102, i169_104, i169_105, i169_108, i169_111, i169_112, i169_115, i169_116, i169_118, i169_119, i169_122, i169_124, i169_125, i169_127, i169_129, i169_131, i169_132, i169_133, i169_134, i169_135, i169_136, i169_137, i169_139, i169_140, i169_141, i169_142, i169_144, i169_146, i169_148, i169_149, i169_152, i169_153, i169_155, i169_156, i169_157, i169_158, i169_159, i169_162, i169_164, i169_167, i169_168, i169_170, i169_171, i169_172, i169_173, i169_174, i169_175, i169_176, i169_177, i169_178, i169_179, i169_182, i169_185, i169_186, i169_189, i169_190, i169_191, i169_193, i169_196, i169_197, i169_e, ob_co r1.o, c_cheapest r1 hi hns (by rw [ea1]; exact hn1), Option.toList_some, Option.toList_none, List.nil_append, List.cons_append, true_and, and_true, eq_self, true_or, or_true, bi_01, mx_nl_i, mx_nl_r, mx_nl_n, mx_nl_f, mx_nl_d]
  have hnm : mx_nl w5 = true ∨ True := Or.inr trivial
  refine c_go_l (P := fun h' A' th => FR h h' ∧ S2 ai A A' ∧ A' ai = (gl_ (G_ (A 0)) ns b (fe_ (A ai) b) 6 (A ai) (fun _ => 0) (A ai (70 + 4 * b + 3) + A ai (70 + 4 * b + 0))).1 ∧ th = (gl_ (G_ (A 0)) ns b (fe_ (A ai) b) 6 (A ai) (fun _ => 0) (A ai (70 + 4 * b + 3) + A ai (70 + 4 * b + 0))).2) hi hns hb ?_ 6 h1 A1 _ _ _ r1 e0 (by rw [ea1]; exact hn1) (by
    unfold cz zb
    rw [hz1 0 (by decide), hz1 1 (by decide), hz1 2 (by decide), hz1 3 (by decide), hz1 4 (by decide), hz1 5 (by decide)]
    decide) rfl ?_
  · intro h' A' th w5 w6 w7 r' hp
    obtain ⟨fr, s2, ea, rfl⟩ := hp
    have kp := gl_kp (G := G_ (A 0)) (b := b) (f := fe_ (A ai) b) hns 6 (A ai) (fun _ => 0) (A ai (70 + 4 * b + 3) + A ai (70 + 4 * b + 0))
    have ha' := r'.ga hi
    have e2 : A' ai (70 + 4 * b + 2) = A ai (70 + 4 * b + 2) := by rw [ea]; exact kp _ (by omega)
    have e3 : (70 + 4 * nI b + 3 : Int32) = nI (70 + 4 * b + 3) := mx_ix 70 4 b 3
    have i3 : mx_in (nI (70 + 4 * b + 3)) 280 = true := mx_inN (by omega) (by decide)
    by_cases c0 : A ai (70 + 4 * b + 2) = 0
    · simp only [i169_0, i169_1, i169_2, i169_3, i169_6, i169_7, i169_8, i169_9, i169_12, i169_13, i169_14, i169_15, i169_16, i169_19, i169_21, i169_22, i169_24, i169_26, i169_28, i169_31, i169_32, i169_35, i169_37, i169_38, i169_39, i169_42, i169_45, i169_46, i169_47, i169_50, i169_52, i169_54, i169_57, i169_58, i169_61, i169_62, i169_65, i169_67, i169_68, i169_69, i169_70, i169_72, i169_74, i169_77, i169_79, i169_80, i169_81, i169_83, i169_85, i169_86, i169_87, i169_88, i169_91, i169_92, i169_93, i169_94, i169_97, i169_100, i169_101, i169_102, i169_104, i169_105, i169_108, i169_111, i169_112, i169_115, i169_116, i169_118, i169_119, i169_122, i169_124, i169_125, i169_127, i169_129, i169_131, i169_132, i169_133, i169_134, i169_135, i169_136, i169_137, i169_139, i169_140, i169_141, i169_142, i169_144, i169_146, i169_148, i169_149, i169_152, i169_153, i169_155, i169_156, i169_157, i169_158, i169_159, i169_162, i169_164, i169_167, i169_168, i169_170, i169_171, i169_172, i169_173, i169_174, i169_175, i169_176, i169_177, i169_178, i169_179, i169_182, i169_185, i169_186, i169_189, i169_190, i169_191, i169_193, i169_196, i169_197, i169_e, c_so2 ha' hb, e2, c0, e3, ar_ik ha', ar_is ha', i3, nI_clamp (show 70 + 4 * b + 3 < 2 ^ 31 by omega), not_true_eq_false, if_false, Option.toList_some, Option.toList_none, List.nil_append, List.cons_append, true_and, and_true, eq_self, true_or, or_true, bi_01, mx_nl_i, mx_nl_r, mx_nl_n, mx_nl_f, mx_nl_d]
      refine k _ _ (r'.sa hi) (fr.tr (FR.set (by omega) (by omega))) (s2.tr S2.up) ?_
      rw [up2_s, ea]
      unfold go_
      rw [if_pos c0]
    · simp only [i169_0, i169_1, i169_2, i169_3, i169_6, i169_7, i169_8, i169_9, i169_12, i169_13, i169_14, i169_15, i169_16, i169_19, i169_21, i169_22, i169_24, i169_26, i169_28, i169_31, i169_32, i169_35, i169_37, i169_38, i169_39, i169_42, i169_45, i169_46, i169_47, i169_50, i169_52, i169_54, i169_57, i169_58, i169_61, i169_62, i169_65, i169_67, i169_68, i169_69, i169_70, i169_72, i169_74, i169_77, i169_79, i169_80, i169_81, i169_83, i169_85, i169_86, i169_87, i169_88, i169_91, i169_92, i169_93, i169_94, i169_97, i169_100, i169_101, i169_102, i169_104, i169_105, i169_108, i169_111, i169_112, i169_115, i169_116, i169_118, i169_119, i169_122, i169_124, i169_125, i169_127, i169_129, i169_131, i169_132, i169_133, i169_134, i169_135, i169_136, i169_137, i169_139, i169_140, i169_141, i169_142, i169_144, i169_146, i169_148, i169_149, i169_152, i169_153, i169_155, i169_156, i169_157, i169_158, i169_159, i169_162, i169_164, i169_167, i169_168, i169_170, i169_171, i169_172, i169_173, i169_174, i169_175, i169_176, i169_177, i169_178, i169_179, i169_182, i169_185, i169_186, i169_189, i169_190, i169_191, i169_193, i169_196, i169_197, i169_e, c_so2 ha' hb, e2, c0, e3, ar_ik ha', ar_is ha', i3, nI_clamp (show 70 + 4 * b + 3 < 2 ^ 31 by omega), not_false_eq_true, if_true, c_held, Option.toList_some, Option.toList_none, List.nil_append, List.cons_append, true_and, and_true, eq_self, true_or, or_true, bi_01, mx_nl_i, mx_nl_r, mx_nl_n, mx_nl_f, mx_nl_d]
      refine k _ _ (r'.sa hi) (fr.tr (FR.set (by omega) (by omega))) (s2.tr S2.up) ?_
      rw [up2_s, ea]
      unfold go_
      rw [if_neg c0]
  · intro h' A' r' fr' s2' q
    rw [eG, ea1, gl_cg hns 6 (A ai) (fun _ => 0) (A1 7) _ (fun j hj => hz1 j hj)] at q ⊢
    exact ⟨fr1.tr fr', s21.tr s2', q, rfl⟩
end R6
