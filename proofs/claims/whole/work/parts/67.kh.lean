/-! the component: a market becomes another; cuts; pairs; one more -/
section CK
variable {h : MXH} {a c n0 n1 : Nat} {f g : Nat → Int32} {sp dp n : Int32}
theorem ck_k (ha : h[a]? = some (.inl (0, n1, .inl g))) (hc : h[c]? = some (.inl (0, n0, .inl f))) : ck_ h a c sp dp n = decide (0 ≤ n ∧ 0 ≤ dp ∧ 0 ≤ sp ∧ sp.toNatClampNeg + n.toNatClampNeg ≤ n0 ∧ dp.toNatClampNeg + n.toNatClampNeg ≤ n1) := by unfold ck_; rw [ha, hc]; rfl
theorem cs_k (ha : h[a]? = some (.inl (0, n1, .inl g))) (hc : h[c]? = some (.inl (0, n0, .inl f))) : cs_ h a c sp dp n = h.set a (.inl (0, n1, .inl (va_cpy f g sp.toNatClampNeg dp.toNatClampNeg n.toNatClampNeg))) := by unfold cs_; rw [ha, hc]; rfl
end CK
theorem scl_sub {k : Nat} (hk : k ≤ 6) : mx_sub (scl k) 6 = true := by
  match k, hk with
  | 0, _ => rfl
  | 1, _ => rfl
  | 2, _ => rfl
  | 3, _ => rfl
  | 4, _ => rfl
  | 5, _ => rfl
  | 6, _ => rfl
  | n + 7, h => omega
theorem min_le {x y : Int32} : (if y < x then y else x) = (if y ≤ x then y else x) := by
  by_cases c1 : y < x
  · rw [if_pos c1, if_pos (Int32.le_of_lt c1)]
  · rw [if_neg c1]
    by_cases c2 : y ≤ x
    · rw [if_pos c2]; exact Int32.le_antisymm (Int32.not_lt.mp c1) c2
    · rw [if_neg c2]
/-- how far a market has become another -/
def BC (h : MXH) (b : Nat) (mi : Nat → Int32) (mr : Nat → Nat → Int32) (mt ms : Nat → Option Nat) (u k c : Nat) : Prop := ∃ mr1 mt1 ms1, KM h b mi mr1 mt1 ms1 ∧ (∀ j, j < 3 → mr1 1 j = mr 1 j) ∧ (∀ i, i < u → mt1 i = mt i) ∧ (∀ s, s < k → ms1 s = ms s ∧ mr1 4 s = mr 4 s ∧ mr1 5 s = mr 5 s ∧ mr1 6 s = mr 6 s) ∧ (∀ s, s < c → mr1 8 s = mr 8 s ∧ mr1 9 s = mr 9 s ∧ mr1 10 s = mr 10 s ∧ mr1 11 s = mr 11 s)
section KH
variable {X : MXX} {d : Nat} {h : MXH} {Q : MXP} {b e : Nat} {m mi mi1 : Nat → Int32} {mr : Nat → Nat → Int32} {mt ms : Nat → Option Nat} {G : MXGf} {ns nb : Nat}
theorem k_bec_t (hb : b ≤ 84) (he : e ≤ 84) (dj : b + 12 ≤ e ∨ e + 12 ≤ b) (r : KM h b mi mr mt ms) (mx : MX h m G mt ms ns)
    (fin : ∀ (h' : MXH) (w2 : Value), BC h' e mi1 mr mt ms 2 0 0 → FX e (e + 12) h h' → ex_ X d 11 71 [.ref e, .ref b, w2] [] h' Q) :
    ∀ (n k : Nat) (h1 : MXH), k + n = 2 → BC h1 e mi1 mr mt ms k 0 0 → FX e (e + 12) h h1 → ex_ X d 11 48 [.ref e, .ref b, .int (nI k)] [] h1 Q := by
  intro n
  induction n with
  | zero =>
    intro k h1 hk bc fx
    have e0 : k = 2 := by omega
    subst e0
    rw [i11_48]
    simp only [i11_0, i11_0n, i11_1, i11_1n, i11_2, i11_5, i11_8, i11_8n, i11_9, i11_9n, i11_10, i11_13, i11_16, i11_16n, i11_17, i11_17n, i11_18, i11_21, i11_24, i11_24n, i11_25, i11_25n, i11_26, i11_29, i11_32, i11_32n, i11_33, i11_36, i11_37, i11_37n, i11_38, i11_41, i11_42, i11_43, i11_46, i11_47, i11_49, i11_50, i11_53, i11_53n, i11_54, i11_57, i11_58, i11_58n, i11_59, i11_62, i11_63, i11_64, i11_64n, i11_65, i11_68, i11_72, i11_72n, i11_73, i11_76, i11_79, i11_80, i11_81, i11_82, i11_82n, i11_83, i11_86, i11_89, i11_89n, i11_90, i11_93, i11_94, i11_94n, i11_95, i11_98, i11_99, i11_100, i11_100n, i11_101, i11_101n, i11_102, i11_105, i11_106, i11_106n, i11_107, i11_110, i11_111, i11_112, i11_113, i11_113n, i11_114, i11_117, i11_118, i11_118n, i11_119, i11_122, i11_123, i11_124, i11_125, i11_125n, i11_126, i11_129, i11_130, i11_130n, i11_131, i11_134, i11_135, i11_136, i11_137, i11_140, i11_143, i11_143n, i11_144, i11_144n, i11_145, i11_148, i11_151, i11_152, i11_153, i11_154, i11_154n, i11_155, i11_158, i11_161, i11_161n, i11_162, i11_165, i11_166, i11_166n, i11_167, i11_170, i11_171, i11_172, i11_173, i11_173n, i11_174, i11_177, i11_178, i11_178n, i11_179, i11_182, i11_183, i11_184, i11_185, i11_185n, i11_186, i11_189, i11_190, i11_190n, i11_191, i11_194, i11_195, i11_196, i11_197, i11_197n, i11_198, i11_201, i11_202, i11_202n, i11_203, i11_206, i11_207, i11_208, i11_209, i11_212, i11_215, i11_e, show (2 : Int32) ≤ nI 2 from by decide, if_true, true_and, and_true, eq_self, true_or, or_true, bi_01, mx_nl_i, mx_nl_r, mx_nl_n, mx_nl_f, mx_nl_d]
    exact fin h1 _ bc fx
  | succ n ih =>
    intro k h1 hk bc fx
    have hc : ¬ ((2 : Int32) ≤ nI k) := by
      show ¬ (nI 2 ≤ nI k)
      rw [nI_leI (by decide) (by omega)]; omega
    obtain ⟨mr1, mt1, ms1, r1, b1, b2, b3, b4⟩ := bc
    have r0 := r.fx fx hb (by omega)
    have mx0 := mx.ev fx.2.2
    have i2 : mx_in (nI k) 2 = true := mx_inN (by omega) (by decide)
    have fx2 : ∀ o : Option Nat, FX e (e + 12) h1 (h1.set (e + 2) (.inl (2, 2, mx_rfs (va_up mt1 k o)))) := fun o => FX.set (by omega) (by omega) (by omega)
    have nx : ∀ o : Option Nat, o = mt k → ex_ X d 11 48 [.ref e, .ref b, .int (nI (k + 1))] [] (h1.set (e + 2) (.inl (2, 2, mx_rfs (va_up mt1 k o)))) Q := by
      intro o ho
      refine ih (k + 1) _ (by omega) ⟨mr1, _, ms1, r1.sT, b1, fun i hi => ?_, b3, b4⟩ (fx.tr (fx2 o))
      by_cases c : i = k
      · subst c; rw [va_us, ho]
      · rw [va_un c]; exact b2 i (by omega)
    rw [i11_48]
    rcases mx0.2 k (by omega) with ⟨hn, _⟩ | ⟨t, P, ht, hT, _⟩
    · simp only [i11_0, i11_0n, i11_1, i11_1n, i11_2, i11_5, i11_8, i11_8n, i11_9, i11_9n, i11_10, i11_13, i11_16, i11_16n, i11_17, i11_17n, i11_18, i11_21, i11_24, i11_24n, i11_25, i11_25n, i11_26, i11_29, i11_32, i11_32n, i11_33, i11_36, i11_37, i11_37n, i11_38, i11_41, i11_42, i11_43, i11_46, i11_47, i11_49, i11_50, i11_53, i11_53n, i11_54, i11_57, i11_58, i11_58n, i11_59, i11_62, i11_63, i11_64, i11_64n, i11_65, i11_68, i11_72, i11_72n, i11_73, i11_76, i11_79, i11_80, i11_81, i11_82, i11_82n, i11_83, i11_86, i11_89, i11_89n, i11_90, i11_93, i11_94, i11_94n, i11_95, i11_98, i11_99, i11_100, i11_100n, i11_101, i11_101n, i11_102, i11_105, i11_106, i11_106n, i11_107, i11_110, i11_111, i11_112, i11_113, i11_113n, i11_114, i11_117, i11_118, i11_118n, i11_119, i11_122, i11_123, i11_124, i11_125, i11_125n, i11_126, i11_129, i11_130, i11_130n, i11_131, i11_134, i11_135, i11_136, i11_137, i11_140, i11_143, i11_143n, i11_144, i11_144n, i11_145, i11_148, i11_151, i11_152, i11_153, i11_154, i11_154n, i11_155, i11_158, i11_161, i11_161n, i11_162, i11_165, i11_166, i11_166n, i11_167, i11_170, i11_171, i11_172, i11_173, i11_173n, i11_174, i11_177, i11_178, i11_178n, i11_179, i11_182, i11_183, i11_184, i11_185, i11_185n, i11_186, i11_189, i11_190, i11_190n, i11_191, i11_194, i11_195, i11_196, i11_197, i11_197n, i11_198, i11_201, i11_202, i11_202n, i11_203, i11_206, i11_207, i11_208, i11_209, i11_212, i11_215, i11_e, hc, if_false, kof_gk r0.o, kof_gv r0.o, kof_gk r1.o, kof_gv r1.o, rr_rk r0.gT, rr_ra r0.gT, rr_rk r1.gT, rr_rs r1.gT, i2, nI_clamp (show k < 2 ^ 31 by omega), hn, mxv_n, show (mx_cmp 2).isSome = true from rfl, Bool.and_self, nI_1, true_and, and_true, eq_self, true_or, or_true, bi_01, mx_nl_i, mx_nl_r, mx_nl_n, mx_nl_f, mx_nl_d]
      exact nx none hn.symm
    · obtain ⟨_, _, ⟨w, ti, o, _⟩, _⟩ := hT
      simp only [i11_0, i11_0n, i11_1, i11_1n, i11_2, i11_5, i11_8, i11_8n, i11_9, i11_9n, i11_10, i11_13, i11_16, i11_16n, i11_17, i11_17n, i11_18, i11_21, i11_24, i11_24n, i11_25, i11_25n, i11_26, i11_29, i11_32, i11_32n, i11_33, i11_36, i11_37, i11_37n, i11_38, i11_41, i11_42, i11_43, i11_46, i11_47, i11_49, i11_50, i11_53, i11_53n, i11_54, i11_57, i11_58, i11_58n, i11_59, i11_62, i11_63, i11_64, i11_64n, i11_65, i11_68, i11_72, i11_72n, i11_73, i11_76, i11_79, i11_80, i11_81, i11_82, i11_82n, i11_83, i11_86, i11_89, i11_89n, i11_90, i11_93, i11_94, i11_94n, i11_95, i11_98, i11_99, i11_100, i11_100n, i11_101, i11_101n, i11_102, i11_105, i11_106, i11_106n, i11_107, i11_110, i11_111, i11_112, i11_113, i11_113n, i11_114, i11_117, i11_118, i11_118n, i11_119, i11_122, i11_123, i11_124, i11_125, i11_125n, i11_126, i11_129, i11_130, i11_130n, i11_131, i11_134, i11_135, i11_136, i11_137, i11_140, i11_143, i11_143n, i11_144, i11_144n, i11_145, i11_148, i11_151, i11_152, i11_153, i11_154, i11_154n, i11_155, i11_158, i11_161, i11_161n, i11_162, i11_165, i11_166, i11_166n, i11_167, i11_170, i11_171, i11_172, i11_173, i11_173n, i11_174, i11_177, i11_178, i11_178n, i11_179, i11_182, i11_183, i11_184, i11_185, i11_185n, i11_186, i11_189, i11_190, i11_190n, i11_191, i11_194, i11_195, i11_196, i11_197, i11_197n, i11_198, i11_201, i11_202, i11_202n, i11_203, i11_206, i11_207, i11_208, i11_209, i11_212, i11_215, i11_e, hc, if_false, kof_gk r0.o, kof_gv r0.o, kof_gk r1.o, kof_gv r1.o, rr_rk r0.gT, rr_ra r0.gT, rr_rx r1.gT o (show mx_cmp 2 = some 10 from rfl), rr_rs r1.gT, i2, nI_clamp (show k < 2 ^ 31 by omega), ht, mxv_s, show (mx_cmp 2).isSome = true from rfl, show mx_sub 10 10 = true from rfl, Bool.and_self, nI_1, true_and, and_true, eq_self, true_or, or_true, bi_01, mx_nl_i, mx_nl_r, mx_nl_n, mx_nl_f, mx_nl_d]
      exact nx (some t) ht.symm
set_option maxHeartbeats 1000000 in
theorem k_bec_s (hb : b ≤ 84) (he : e ≤ 84) (dj : b + 12 ≤ e ∨ e + 12 ≤ b) (hns : ns ≤ 6) (e7 : mi1 7 = nI ns) (r : KM h b mi mr mt ms) (mx : MX h m G mt ms ns)
    (fin : ∀ (h' : MXH) (w2 : Value), BC h' e mi1 mr mt ms 2 ns 0 → FX e (e + 12) h h' → ex_ X d 11 143 [.ref e, .ref b, w2] [] h' Q) :
    ∀ (n k : Nat) (h1 : MXH), k + n = ns → BC h1 e mi1 mr mt ms 2 k 0 → FX e (e + 12) h h1 → ex_ X d 11 81 [.ref e, .ref b, .int (nI k)] [] h1 Q := by
  intro n
  induction n with
  | zero =>
    intro k h1 hk bc fx
    have e0 : k = ns := by omega
    subst e0
    have bc0 := bc
    obtain ⟨mr1, mt1, ms1, r1, b1, b2, b3, b4⟩ := bc
    rw [i11_81]
    simp only [i11_0, i11_0n, i11_1, i11_1n, i11_2, i11_5, i11_8, i11_8n, i11_9, i11_9n, i11_10, i11_13, i11_16, i11_16n, i11_17, i11_17n, i11_18, i11_21, i11_24, i11_24n, i11_25, i11_25n, i11_26, i11_29, i11_32, i11_32n, i11_33, i11_36, i11_37, i11_37n, i11_38, i11_41, i11_42, i11_43, i11_46, i11_47, i11_48, i11_49, i11_50, i11_53, i11_53n, i11_54, i11_57, i11_58, i11_58n, i11_59, i11_62, i11_63, i11_64, i11_64n, i11_65, i11_68, i11_71, i11_71n, i11_72, i11_72n, i11_73, i11_76, i11_79, i11_80, i11_82, i11_82n, i11_83, i11_86, i11_89, i11_89n, i11_90, i11_93, i11_94, i11_94n, i11_95, i11_98, i11_99, i11_100, i11_100n, i11_101, i11_101n, i11_102, i11_105, i11_106, i11_106n, i11_107, i11_110, i11_111, i11_112, i11_113, i11_113n, i11_114, i11_117, i11_118, i11_118n, i11_119, i11_122, i11_123, i11_124, i11_125, i11_125n, i11_126, i11_129, i11_130, i11_130n, i11_131, i11_134, i11_135, i11_136, i11_137, i11_140, i11_144, i11_144n, i11_145, i11_148, i11_151, i11_152, i11_153, i11_154, i11_154n, i11_155, i11_158, i11_161, i11_161n, i11_162, i11_165, i11_166, i11_166n, i11_167, i11_170, i11_171, i11_172, i11_173, i11_173n, i11_174, i11_177, i11_178, i11_178n, i11_179, i11_182, i11_183, i11_184, i11_185, i11_185n, i11_186, i11_189, i11_190, i11_190n, i11_191, i11_194, i11_195, i11_196, i11_197, i11_197n, i11_198, i11_201, i11_202, i11_202n, i11_203, i11_206, i11_207, i11_208, i11_209, i11_212, i11_215, i11_e, kof_gk r1.o, kof_gv r1.o, e7, Int32.le_refl, if_true, true_and, and_true, eq_self, true_or, or_true, bi_01, mx_nl_i, mx_nl_r, mx_nl_n, mx_nl_f, mx_nl_d]
    exact fin h1 _ bc0 fx
  | succ n ih =>
    intro k h1 hk bc fx
    have hc : ¬ ((nI ns : Int32) ≤ nI k) := by rw [nI_leI (by omega) (by omega)]; omega
    obtain ⟨mr1, mt1, ms1, r1, b1, b2, b3, b4⟩ := bc
    have r0 := r.fx fx hb (by omega)
    have mx0 := mx.ev fx.2.2
    have i6 : mx_in (nI k) 6 = true := mx_inN (by omega) (by decide)
    obtain ⟨a, ea, ha, kd, hkd, ek, ho⟩ := mx0.1 k (by omega)
    have r2 := r1.sS (g := va_up ms1 k (some a))
    have r3 := r2.s4 (f := upd (mr1 4) k (mr 4 k))
    have g5 := r3.g5
    rw [up2_n (by decide)] at g5
    have r4 := r3.s5 (f := upd (mr1 5) k (mr 5 k))
    have g6 := r4.g6
    rw [up2_n (by decide), up2_n (by decide)] at g6
    have r5 := r4.s6 (f := upd (mr1 6) k (mr 6 k))
    have f2 : FX e (e + 12) h1 (h1.set (e + 3) (.inl (3, 6, mx_rfs (va_up ms1 k (some a))))) := FX.set (by omega) (by omega) (by omega)
    have f3 := f2.tr (FX.set (a := e + 4) (x := .inl (0, 6, .inl (upd (mr1 4) k (mr 4 k)))) (by omega) (by omega) (by omega))
    have f4 := f3.tr (FX.set (a := e + 5) (x := .inl (0, 6, .inl (upd (mr1 5) k (mr 5 k)))) (by omega) (by omega) (by omega))
    have f5 := f4.tr (FX.set (a := e + 6) (x := .inl (0, 6, .inl (upd (mr1 6) k (mr 6 k)))) (by omega) (by omega) (by omega))
    have s2 := r0.fx f2 hb (by omega)
    have s3 := r0.fx f3 hb (by omega)
    have s4 := r0.fx f4 hb (by omega)
    rw [i11_81]
    simp only [i11_0, i11_0n, i11_1, i11_1n, i11_2, i11_5, i11_8, i11_8n, i11_9, i11_9n, i11_10, i11_13, i11_16, i11_16n, i11_17, i11_17n, i11_18, i11_21, i11_24, i11_24n, i11_25, i11_25n, i11_26, i11_29, i11_32, i11_32n, i11_33, i11_36, i11_37, i11_37n, i11_38, i11_41, i11_42, i11_43, i11_46, i11_47, i11_48, i11_49, i11_50, i11_53, i11_53n, i11_54, i11_57, i11_58, i11_58n, i11_59, i11_62, i11_63, i11_64, i11_64n, i11_65, i11_68, i11_71, i11_71n, i11_72, i11_72n, i11_73, i11_76, i11_79, i11_80, i11_82, i11_82n, i11_83, i11_86, i11_89, i11_89n, i11_90, i11_93, i11_94, i11_94n, i11_95, i11_98, i11_99, i11_100, i11_100n, i11_101, i11_101n, i11_102, i11_105, i11_106, i11_106n, i11_107, i11_110, i11_111, i11_112, i11_113, i11_113n, i11_114, i11_117, i11_118, i11_118n, i11_119, i11_122, i11_123, i11_124, i11_125, i11_125n, i11_126, i11_129, i11_130, i11_130n, i11_131, i11_134, i11_135, i11_136, i11_137, i11_140, i11_144, i11_144n, i11_145, i11_148, i11_151, i11_152, i11_153, i11_154, i11_154n, i11_155, i11_158, i11_161, i11_161n, i11_162, i11_165, i11_166, i11_166n, i11_167, i11_170, i11_171, i11_172, i11_173, i11_173n, i11_174, i11_177, i11_178, i11_178n, i11_179, i11_182, i11_183, i11_184, i11_185, i11_185n, i11_186, i11_189, i11_190, i11_190n, i11_191, i11_194, i11_195, i11_196, i11_197, i11_197n, i11_198, i11_201, i11_202, i11_202n, i11_203, i11_206, i11_207, i11_208, i11_209, i11_212, i11_215, i11_e, kof_gk r1.o, kof_gv r1.o, e7, hc, if_false, kof_gk r0.o, kof_gv r0.o, rr_rk r0.gS, rr_ra r0.gS, i6, nI_clamp (show k < 2 ^ 31 by omega), ea, mxv_s, show (mx_cmp 3).isSome = true from rfl, rr_rx r1.gS ho (show mx_cmp 3 = some 6 from rfl), scl_sub hkd, rr_rs r1.gS, Bool.and_self, kof_gk r2.o, kof_gv r2.o, kof_gk s2.o, kof_gv s2.o, ar_ik s2.g4, ar_ia s2.g4, ar_ik r2.g4, ar_is r2.g4, kof_gk r3.o, kof_gv r3.o, kof_gk s3.o, kof_gv s3.o, ar_ik s3.g5, ar_ia s3.g5, ar_ik g5, ar_is g5, kof_gk r4.o, kof_gv r4.o, kof_gk s4.o, kof_gv s4.o, ar_ik s4.g6, ar_ia s4.g6, ar_ik g6, ar_is g6, nI_1, true_and, and_true, eq_self, true_or, or_true, bi_01, mx_nl_i, mx_nl_r, mx_nl_n, mx_nl_f, mx_nl_d]
    refine ih (k + 1) _ (by omega) ⟨_, _, _, r5, fun j hj => ?_, b2, fun s hs => ?_, fun s hs => by omega⟩ (fx.tr f5)
    · rw [up2_n (by decide), up2_n (by decide), up2_n (by decide)]; exact b1 j hj
    · rw [up2_s, up2_n (show 5 ≠ 6 by decide), up2_s, up2_n (show 4 ≠ 6 by decide), up2_n (show 4 ≠ 5 by decide), up2_s]
      by_cases c : s = k
      · subst c; rw [va_us, pk_us, pk_us, pk_us]; exact ⟨ea.symm, rfl, rfl, rfl⟩
      · rw [va_un c, pk_un c, pk_un c, pk_un c]; exact b3 s (by omega)
set_option maxHeartbeats 1000000 in
theorem k_bec_b (hb : b ≤ 84) (he : e ≤ 84) (dj : b + 12 ≤ e ∨ e + 12 ≤ b) (hnb : nb ≤ 8) (e12 : mi1 12 = nI nb) (r : KM h b mi mr mt ms)
    (fin : ∀ (h' : MXH), BC h' e mi1 mr mt ms 2 ns nb → FX e (e + 12) h h' → Q none h') :
    ∀ (n k : Nat) (h1 : MXH), k + n = nb → BC h1 e mi1 mr mt ms 2 ns k → FX e (e + 12) h h1 → ex_ X d 11 153 [.ref e, .ref b, .int (nI k)] [] h1 Q := by
  intro n
  induction n with
  | zero =>
    intro k h1 hk bc fx
    have e0 : k = nb := by omega
    subst e0
    have bc0 := bc
    obtain ⟨mr1, mt1, ms1, r1, b1, b2, b3, b4⟩ := bc
    rw [i11_153]
    simp only [i11_0, i11_0n, i11_1, i11_1n, i11_2, i11_5, i11_8, i11_8n, i11_9, i11_9n, i11_10, i11_13, i11_16, i11_16n, i11_17, i11_17n, i11_18, i11_21, i11_24, i11_24n, i11_25, i11_25n, i11_26, i11_29, i11_32, i11_32n, i11_33, i11_36, i11_37, i11_37n, i11_38, i11_41, i11_42, i11_43, i11_46, i11_47, i11_48, i11_49, i11_50, i11_53, i11_53n, i11_54, i11_57, i11_58, i11_58n, i11_59, i11_62, i11_63, i11_64, i11_64n, i11_65, i11_68, i11_71, i11_71n, i11_72, i11_72n, i11_73, i11_76, i11_79, i11_80, i11_81, i11_82, i11_82n, i11_83, i11_86, i11_89, i11_89n, i11_90, i11_93, i11_94, i11_94n, i11_95, i11_98, i11_99, i11_100, i11_100n, i11_101, i11_101n, i11_102, i11_105, i11_106, i11_106n, i11_107, i11_110, i11_111, i11_112, i11_113, i11_113n, i11_114, i11_117, i11_118, i11_118n, i11_119, i11_122, i11_123, i11_124, i11_125, i11_125n, i11_126, i11_129, i11_130, i11_130n, i11_131, i11_134, i11_135, i11_136, i11_137, i11_140, i11_143, i11_143n, i11_144, i11_144n, i11_145, i11_148, i11_151, i11_152, i11_154, i11_154n, i11_155, i11_158, i11_161, i11_161n, i11_162, i11_165, i11_166, i11_166n, i11_167, i11_170, i11_171, i11_172, i11_173, i11_173n, i11_174, i11_177, i11_178, i11_178n, i11_179, i11_182, i11_183, i11_184, i11_185, i11_185n, i11_186, i11_189, i11_190, i11_190n, i11_191, i11_194, i11_195, i11_196, i11_197, i11_197n, i11_198, i11_201, i11_202, i11_202n, i11_203, i11_206, i11_207, i11_208, i11_209, i11_212, i11_215, i11_e, kof_gk r1.o, kof_gv r1.o, e12, Int32.le_refl, if_true, true_and, and_true, eq_self, true_or, or_true, bi_01, mx_nl_i, mx_nl_r, mx_nl_n, mx_nl_f, mx_nl_d]
    exact fin h1 bc0 fx
  | succ n ih =>
    intro k h1 hk bc fx
    have hc : ¬ ((nI nb : Int32) ≤ nI k) := by rw [nI_leI (by omega) (by omega)]; omega
    obtain ⟨mr1, mt1, ms1, r1, b1, b2, b3, b4⟩ := bc
    have r0 := r.fx fx hb (by omega)
    have i6 : mx_in (nI k) 8 = true := mx_inN (by omega) (by decide)
    have r2 := r1.s8 (f := upd (mr1 8) k (mr 8 k))
    have g9 := r2.g9
    rw [up2_n (by decide)] at g9
    have r3 := r2.s9 (f := upd (mr1 9) k (mr 9 k))
    have g10 := r3.g10
    rw [up2_n (by decide), up2_n (by decide)] at g10
    have r4 := r3.s10 (f := upd (mr1 10) k (mr 10 k))
    have g11 := r4.g11
    rw [up2_n (by decide), up2_n (by decide), up2_n (by decide)] at g11
    have r5 := r4.s11 (f := upd (mr1 11) k (mr 11 k))
    have f2 : FX e (e + 12) h1 (h1.set (e + 8) (.inl (0, 8, .inl (upd (mr1 8) k (mr 8 k))))) := FX.set (by omega) (by omega) (by omega)
    have f3 := f2.tr (FX.set (a := e + 9) (x := .inl (0, 8, .inl (upd (mr1 9) k (mr 9 k)))) (by omega) (by omega) (by omega))
    have f4 := f3.tr (FX.set (a := e + 10) (x := .inl (0, 8, .inl (upd (mr1 10) k (mr 10 k)))) (by omega) (by omega) (by omega))
    have f5 := f4.tr (FX.set (a := e + 11) (x := .inl (0, 8, .inl (upd (mr1 11) k (mr 11 k)))) (by omega) (by omega) (by omega))
    have s2 := r0.fx f2 hb (by omega)
    have s3 := r0.fx f3 hb (by omega)
    have s4 := r0.fx f4 hb (by omega)
    rw [i11_153]
    simp only [i11_0, i11_0n, i11_1, i11_1n, i11_2, i11_5, i11_8, i11_8n, i11_9, i11_9n, i11_10, i11_13, i11_16, i11_16n, i11_17, i11_17n, i11_18, i11_21, i11_24, i11_24n, i11_25, i11_25n, i11_26, i11_29, i11_32, i11_32n, i11_33, i11_36, i11_37, i11_37n, i11_38, i11_41, i11_42, i11_43, i11_46, i11_47, i11_48, i11_49, i11_50, i11_53, i11_53n, i11_54, i11_57, i11_58, i11_58n, i11_59, i11_62, i11_63, i11_64, i11_64n, i11_65, i11_68, i11_71, i11_71n, i11_72, i11_72n, i11_73, i11_76, i11_79, i11_80, i11_81, i11_82, i11_82n, i11_83, i11_86, i11_89, i11_89n, i11_90, i11_93, i11_94, i11_94n, i11_95, i11_98, i11_99, i11_100, i11_100n, i11_101, i11_101n, i11_102, i11_105, i11_106, i11_106n, i11_107, i11_110, i11_111, i11_112, i11_113, i11_113n, i11_114, i11_117, i11_118, i11_118n, i11_119, i11_122, i11_123, i11_124, i11_125, i11_125n, i11_126, i11_129, i11_130, i11_130n, i11_131, i11_134, i11_135, i11_136, i11_137, i11_140, i11_143, i11_143n, i11_144, i11_144n, i11_145, i11_148, i11_151, i11_152, i11_154, i11_154n, i11_155, i11_158, i11_161, i11_161n, i11_162, i11_165, i11_166, i11_166n, i11_167, i11_170, i11_171, i11_172, i11_173, i11_173n, i11_174, i11_177, i11_178, i11_178n, i11_179, i11_182, i11_183, i11_184, i11_185, i11_185n, i11_186, i11_189, i11_190, i11_190n, i11_191, i11_194, i11_195, i11_196, i11_197, i11_197n, i11_198, i11_201, i11_202, i11_202n, i11_203, i11_206, i11_207, i11_208, i11_209, i11_212, i11_215, i11_e, kof_gk r1.o, kof_gv r1.o, e12, hc, if_false, kof_gk r0.o, kof_gv r0.o, ar_ik r0.g8, ar_ia r0.g8, ar_ik r1.g8, ar_is r1.g8, i6, nI_clamp (show k < 2 ^ 31 by omega), kof_gk r2.o, kof_gv r2.o, kof_gk s2.o, kof_gv s2.o, ar_ik s2.g9, ar_ia s2.g9, ar_ik g9, ar_is g9, kof_gk r3.o, kof_gv r3.o, kof_gk s3.o, kof_gv s3.o, ar_ik s3.g10, ar_ia s3.g10, ar_ik g10, ar_is g10, kof_gk r4.o, kof_gv r4.o, kof_gk s4.o, kof_gv s4.o, ar_ik s4.g11, ar_ia s4.g11, ar_ik g11, ar_is g11, nI_1, true_and, and_true, eq_self, true_or, or_true, bi_01, mx_nl_i, mx_nl_r, mx_nl_n, mx_nl_f, mx_nl_d]
    refine ih (k + 1) _ (by omega) ⟨_, _, _, r5, fun j hj => ?_, b2, fun s hs => ?_, fun s hs => ?_⟩ (fx.tr f5)
    · rw [up2_n (by decide), up2_n (by decide), up2_n (by decide), up2_n (by decide)]; exact b1 j hj
    · rw [up2_n (show 4 ≠ 11 by decide), up2_n (show 4 ≠ 10 by decide), up2_n (show 4 ≠ 9 by decide), up2_n (show 4 ≠ 8 by decide), up2_n (show 5 ≠ 11 by decide), up2_n (show 5 ≠ 10 by decide), up2_n (show 5 ≠ 9 by decide), up2_n (show 5 ≠ 8 by decide), up2_n (show 6 ≠ 11 by decide), up2_n (show 6 ≠ 10 by decide), up2_n (show 6 ≠ 9 by decide), up2_n (show 6 ≠ 8 by decide)]; exact b3 s hs
    · rw [up2_s, up2_n (show 10 ≠ 11 by decide), up2_s, up2_n (show 9 ≠ 11 by decide), up2_n (show 9 ≠ 10 by decide), up2_s, up2_n (show 8 ≠ 11 by decide), up2_n (show 8 ≠ 10 by decide), up2_n (show 8 ≠ 9 by decide), up2_s]
      by_cases c : s = k
      · subst c; rw [pk_us, pk_us, pk_us, pk_us]; exact ⟨rfl, rfl, rfl, rfl⟩
      · rw [pk_un c, pk_un c, pk_un c, pk_un c]; exact b4 s (by omega)
/-- a market's cells, whatever they hold -/
def MS (h : MXH) (b : Nat) : Prop := ∃ mi mr mt ms, KM h b mi mr mt ms
theorem MK.ss (x : MK h b m G ns nb) : MS h b := by
  obtain ⟨mi, mr, mt, ms, r, _⟩ := x
  exact ⟨mi, mr, mt, ms, r⟩
theorem MS.fx {lo hi : Nat} {h' : MXH} (r : MS h b) (f : FX lo hi h h') (hb : b ≤ 84) (q : hi ≤ lo ∨ hi ≤ b ∨ b + 12 ≤ lo) : MS h' b := by
  obtain ⟨mi, mr, mt, ms, r⟩ := r
  exact ⟨mi, mr, mt, ms, r.fx f hb q⟩
theorem MK.co (x : MK h b m G ns nb) : co_ h b = some 3 := by
  obtain ⟨mi, mr, mt, ms, r, _⟩ := x
  exact ob_co r.o
theorem MS.co (x : MS h b) : co_ h b = some 3 := by
  obtain ⟨mi, mr, mt, ms, r⟩ := x
  exact ob_co r.o
set_option maxHeartbeats 1000000 in
theorem k_become (hb : b ≤ 84) (he : e ≤ 84) (dj : b + 12 ≤ e ∨ e + 12 ≤ b) (hns : ns ≤ 6) (hnb : nb ≤ 8) (mk : MK h b m G ns nb) (md : MS h e) (k' : ∀ h', MK h' e m G ns nb → FX e (e + 12) h h' → Q none h') : ev_ X (d + 1) 11 [.ref e, .ref b] h Q := by
  obtain ⟨mi, mr, mt, ms, r, q, mx⟩ := mk
  obtain ⟨mj, nr, nt, nz, z⟩ := md
  have q3 := q.1.2.2.2.1
  generalize hq : decide (¬ m 11 = 1) = bl at q3
  have os : ∀ w, (h.set e (.inr (3, kof e w)))[e]? = some (.inr (3, kof e w)) := fun w => mx_gss (by rw [z.o]; rfl)
  have ob : ∀ w, (h.set e (.inr (3, kof e w)))[b]? = some (.inr (3, kof b mi)) := fun w => by rw [List.getElem?_set_ne (by omega)]; exact r.o
  have z1 : KM (h.set e (.inr (3, kof e (upd (upd (upd (upd mj 0 (mi 0)) 1 (mi 1)) 2 (mi 2)) 3 (bi_ bl))))) e _ nr nt nz := z.sv
  have f1 : FX e (e + 12) h (h.set e (.inr (3, kof e (upd (upd (upd (upd mj 0 (mi 0)) 1 (mi 1)) 2 (mi 2)) 3 (bi_ bl))))) := FX.set (by omega) (by omega) (by omega)
  have r1 := r.fx f1 hb (by omega)
  have z2 := z1.s1 (f := va_cpy (mr 1) (nr 1) 0 0 3)
  have f2 := f1.tr (FX.set (a := e + 1) (x := .inl (0, 3, .inl (va_cpy (mr 1) (nr 1) 0 0 3))) (by omega) (by omega) (by omega))
  have tc : (0 : Int32).toNatClampNeg = 0 ∧ (3 : Int32).toNatClampNeg = 3 := by decide
  simp only [i11_0, i11_0n, i11_1, i11_1n, i11_2, i11_5, i11_8, i11_8n, i11_9, i11_9n, i11_10, i11_13, i11_16, i11_16n, i11_17, i11_17n, i11_18, i11_21, i11_24, i11_24n, i11_25, i11_25n, i11_26, i11_29, i11_32, i11_32n, i11_33, i11_36, i11_37, i11_37n, i11_38, i11_41, i11_42, i11_43, i11_46, i11_47, i11_49, i11_50, i11_53, i11_53n, i11_54, i11_57, i11_58, i11_58n, i11_59, i11_62, i11_63, i11_64, i11_64n, i11_65, i11_68, i11_71, i11_71n, i11_72, i11_72n, i11_73, i11_76, i11_79, i11_80, i11_81, i11_82, i11_82n, i11_83, i11_86, i11_89, i11_89n, i11_90, i11_93, i11_94, i11_94n, i11_95, i11_98, i11_99, i11_100, i11_100n, i11_101, i11_101n, i11_102, i11_105, i11_106, i11_106n, i11_107, i11_110, i11_111, i11_112, i11_113, i11_113n, i11_114, i11_117, i11_118, i11_118n, i11_119, i11_122, i11_123, i11_124, i11_125, i11_125n, i11_126, i11_129, i11_130, i11_130n, i11_131, i11_134, i11_135, i11_136, i11_137, i11_140, i11_143, i11_143n, i11_144, i11_144n, i11_145, i11_148, i11_151, i11_152, i11_153, i11_154, i11_154n, i11_155, i11_158, i11_161, i11_161n, i11_162, i11_165, i11_166, i11_166n, i11_167, i11_170, i11_171, i11_172, i11_173, i11_173n, i11_174, i11_177, i11_178, i11_178n, i11_179, i11_182, i11_183, i11_184, i11_185, i11_185n, i11_186, i11_189, i11_190, i11_190n, i11_191, i11_194, i11_195, i11_196, i11_197, i11_197n, i11_198, i11_201, i11_202, i11_202n, i11_203, i11_206, i11_207, i11_208, i11_209, i11_212, i11_215, i11_e, kof_gk r.o, kof_gv r.o, kof_pk0 z.o, kof_pf0 z.o, kof_gk (ob _), kof_gv (ob _), kof_pk1 (os _), kof_pf1 (os _), kof_pk2 (os _), kof_pf2 (os _), q3, kof_pk3 (os _), kof_pf3 (os _), List.set_set, kof_gk (os _), kof_gv (os _), ck_k z1.g1 r1.g1, cs_k z1.g1 r1.g1, tc, show decide ((0 : Int32) ≤ 3 ∧ (0 : Int32) ≤ 0 ∧ (0 : Int32) ≤ 0 ∧ 0 + 3 ≤ 3 ∧ 0 + 3 ≤ 3) = true from by decide, true_and, and_true, eq_self, true_or, or_true, bi_01, mx_nl_i, mx_nl_r, mx_nl_n, mx_nl_f, mx_nl_d]
  refine k_bec_t (h := h) (b := b) (e := e) (mi1 := upd (upd (upd (upd mj 0 (mi 0)) 1 (mi 1)) 2 (mi 2)) 3 (bi_ bl)) hb he dj r mx ?_ 2 0 _ (by omega) ⟨_, _, _, z2, fun j hj => ?_, fun i hi => by omega, fun s hs => by omega, fun s hs => by omega⟩ f2
  · intro h3 w2 bc3 f3
    have r3 := r.fx f3 hb (by omega)
    obtain ⟨nr3, nt3, nz3, z3, c1, c2, c3, c4⟩ := bc3
    have os3 : ∀ w, (h3.set e (.inr (3, kof e w)))[e]? = some (.inr (3, kof e w)) := fun w => mx_gss (by rw [z3.o]; rfl)
    have f4 : FX e (e + 12) h3 (h3.set e (.inr (3, kof e (upd (upd (upd (upd (upd mj 0 (mi 0)) 1 (mi 1)) 2 (mi 2)) 3 (bi_ bl)) 7 (mi 7))))) := FX.set (by omega) (by omega) (by omega)
    simp only [i11_0, i11_0n, i11_1, i11_1n, i11_2, i11_5, i11_8, i11_8n, i11_9, i11_9n, i11_10, i11_13, i11_16, i11_16n, i11_17, i11_17n, i11_18, i11_21, i11_24, i11_24n, i11_25, i11_25n, i11_26, i11_29, i11_32, i11_32n, i11_33, i11_36, i11_37, i11_37n, i11_38, i11_41, i11_42, i11_43, i11_46, i11_47, i11_48, i11_49, i11_50, i11_53, i11_53n, i11_54, i11_57, i11_58, i11_58n, i11_59, i11_62, i11_63, i11_64, i11_64n, i11_65, i11_68, i11_72, i11_72n, i11_73, i11_76, i11_79, i11_80, i11_82, i11_82n, i11_83, i11_86, i11_89, i11_89n, i11_90, i11_93, i11_94, i11_94n, i11_95, i11_98, i11_99, i11_100, i11_100n, i11_101, i11_101n, i11_102, i11_105, i11_106, i11_106n, i11_107, i11_110, i11_111, i11_112, i11_113, i11_113n, i11_114, i11_117, i11_118, i11_118n, i11_119, i11_122, i11_123, i11_124, i11_125, i11_125n, i11_126, i11_129, i11_130, i11_130n, i11_131, i11_134, i11_135, i11_136, i11_137, i11_140, i11_143, i11_143n, i11_144, i11_144n, i11_145, i11_148, i11_151, i11_152, i11_153, i11_154, i11_154n, i11_155, i11_158, i11_161, i11_161n, i11_162, i11_165, i11_166, i11_166n, i11_167, i11_170, i11_171, i11_172, i11_173, i11_173n, i11_174, i11_177, i11_178, i11_178n, i11_179, i11_182, i11_183, i11_184, i11_185, i11_185n, i11_186, i11_189, i11_190, i11_190n, i11_191, i11_194, i11_195, i11_196, i11_197, i11_197n, i11_198, i11_201, i11_202, i11_202n, i11_203, i11_206, i11_207, i11_208, i11_209, i11_212, i11_215, i11_e, i11_71, kof_gk r3.o, kof_gv r3.o, kof_pk7 z3.o, kof_pf7 z3.o, true_and, and_true, eq_self, true_or, or_true, bi_01, mx_nl_i, mx_nl_r, mx_nl_n, mx_nl_f, mx_nl_d]
    refine k_bec_s (h := h) (mi1 := upd (upd (upd (upd (upd mj 0 (mi 0)) 1 (mi 1)) 2 (mi 2)) 3 (bi_ bl)) 7 (mi 7)) hb he dj hns (by rw [pk_us]; exact q.1.2.2.2.2.1) r mx ?_ ns 0 _ (by omega) ⟨nr3, nt3, nz3, z3.sv, c1, c2, c3, c4⟩ (f3.tr f4)
    intro h5 w5 bc5 f5
    have r5 := r.fx f5 hb (by omega)
    obtain ⟨nr5, nt5, nz5, z5, p1, p2, p3, p4⟩ := bc5
    have f6 : FX e (e + 12) h5 (h5.set e (.inr (3, kof e (upd (upd (upd (upd (upd (upd mj 0 (mi 0)) 1 (mi 1)) 2 (mi 2)) 3 (bi_ bl)) 7 (mi 7)) 12 (mi 12))))) := FX.set (by omega) (by omega) (by omega)
    simp only [i11_0, i11_0n, i11_1, i11_1n, i11_2, i11_5, i11_8, i11_8n, i11_9, i11_9n, i11_10, i11_13, i11_16, i11_16n, i11_17, i11_17n, i11_18, i11_21, i11_24, i11_24n, i11_25, i11_25n, i11_26, i11_29, i11_32, i11_32n, i11_33, i11_36, i11_37, i11_37n, i11_38, i11_41, i11_42, i11_43, i11_46, i11_47, i11_48, i11_49, i11_50, i11_53, i11_53n, i11_54, i11_57, i11_58, i11_58n, i11_59, i11_62, i11_63, i11_64, i11_64n, i11_65, i11_68, i11_71, i11_71n, i11_72, i11_72n, i11_73, i11_76, i11_79, i11_80, i11_81, i11_82, i11_82n, i11_83, i11_86, i11_89, i11_89n, i11_90, i11_93, i11_94, i11_94n, i11_95, i11_98, i11_99, i11_100, i11_100n, i11_101, i11_101n, i11_102, i11_105, i11_106, i11_106n, i11_107, i11_110, i11_111, i11_112, i11_113, i11_113n, i11_114, i11_117, i11_118, i11_118n, i11_119, i11_122, i11_123, i11_124, i11_125, i11_125n, i11_126, i11_129, i11_130, i11_130n, i11_131, i11_134, i11_135, i11_136, i11_137, i11_140, i11_144, i11_144n, i11_145, i11_148, i11_151, i11_152, i11_154, i11_154n, i11_155, i11_158, i11_161, i11_161n, i11_162, i11_165, i11_166, i11_166n, i11_167, i11_170, i11_171, i11_172, i11_173, i11_173n, i11_174, i11_177, i11_178, i11_178n, i11_179, i11_182, i11_183, i11_184, i11_185, i11_185n, i11_186, i11_189, i11_190, i11_190n, i11_191, i11_194, i11_195, i11_196, i11_197, i11_197n, i11_198, i11_201, i11_202, i11_202n, i11_203, i11_206, i11_207, i11_208, i11_209, i11_212, i11_215, i11_e, i11_143, kof_gk r5.o, kof_gv r5.o, kof_pk12 z5.o, kof_pf12 z5.o, true_and, and_true, eq_self, true_or, or_true, bi_01, mx_nl_i, mx_nl_r, mx_nl_n, mx_nl_f, mx_nl_d]
    refine k_bec_b (h := h) (ns := ns) (mi1 := upd (upd (upd (upd (upd (upd mj 0 (mi 0)) 1 (mi 1)) 2 (mi 2)) 3 (bi_ bl)) 7 (mi 7)) 12 (mi 12)) hb he dj hnb (by rw [pk_us]; exact q.1.2.2.2.2.2) r ?_ nb 0 _ (by omega) ⟨nr5, nt5, nz5, z5.sv, p1, p2, p3, p4⟩ (f5.tr f6)
    intro h7 bc7 f7
    obtain ⟨nr7, nt7, nz7, z7, s1, s2, s3, s4⟩ := bc7
    obtain ⟨⟨a1, a2, a3, a4, a5, a6⟩, qb, qc, qd⟩ := q
    refine k' h7 ⟨_, nr7, nt7, nz7, z7, ⟨⟨?_, ?_, ?_, ?_, ?_, ?_⟩, ?_, ?_, ?_⟩, ?_⟩ f7
    · exact a1
    · exact a2
    · exact a3
    · rw [hq]; rfl
    · exact a5
    · exact a6
    · intro j hj; rw [s1 j hj]; exact qb j hj
    · intro s hs; obtain ⟨u1, u2, u3, u4⟩ := s3 s hs; rw [u2, u3, u4]; exact qc s hs
    · intro s hs; obtain ⟨u1, u2, u3, u4⟩ := s4 s hs; rw [u1, u2, u3, u4]; exact qd s hs
    · have mx7 := mx.ev f7.2.2
      refine ⟨fun s hs => ?_, fun u hu => ?_⟩
      · rw [(s3 s hs).1]; exact mx7.1 s hs
      · rw [s2 u hu]; exact mx7.2 u hu
  · rw [up2_s, pk_cpy_in (by omega) (by omega)]
    congr 1
    omega
end KH
