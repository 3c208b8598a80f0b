/-! the component: the order by prices; a sort is served; a day -/
section KG
variable {X : MXX} {d : Nat} {h : MXH} {Q : MXP} {b : Nat} {m : Nat → Int32} {G : MXGf} {ns nb : Nat}
theorem KM.s7' {mi : Nat → Int32} {mr : Nat → Nat → Int32} {mt ms : Nat → Option Nat} {f g : Nat → Int32} (r : KM h b mi (up2 mr 7 f) mt ms) : KM (h.set (b + 7) (.inl (0, 6, .inl g))) b mi (up2 mr 7 g) mt ms := by
  have := r.s7 (f := g)
  have e : up2 (up2 mr 7 f) 7 g = up2 mr 7 g := by
    funext i
    by_cases c : i = 7
    · subst c; rw [up2_s, up2_s]
    · rw [up2_n c, up2_n c, up2_n c]
  rwa [e] at this
set_option maxHeartbeats 2000000 in
/-- the inner loop: room is made for one -/
theorem k_rank_i {mi : Nat → Int32} {mr : Nat → Nat → Int32} {mt ms : Nat → Option Nat} {k : Nat} {rk : Nat → Nat} {f0 : Nat → Int32} (hns : ns ≤ 6) (hk : k < ns) (q : MR m mi mr ns nb) (R : RK f0 (fun s => m (20 + 8 * s + 6)) k rk)
    (fin : ∀ (at' : Nat) (f : Nat → Int32), KM (h.set (b + 7) (.inl (0, 6, .inl f))) b mi (up2 mr 7 f) mt ms → at' ≤ k → (∀ q, q < at' → m (20 + 8 * rk q + 6) ≤ m (20 + 8 * k + 6)) → (∀ q, at' ≤ q → q < k → m (20 + 8 * k + 6) < m (20 + 8 * rk q + 6)) → (∀ q, q < at' → f q = f0 q) → (∀ q, at' < q → q ≤ k → f q = f0 (q - 1)) → ex_ X d 22 58 [.ref b, .int (nI k), .int (nI at')] [] (h.set (b + 7) (.inl (0, 6, .inl f))) Q) :
    ∀ (at' : Nat) (f : Nat → Int32), KM (h.set (b + 7) (.inl (0, 6, .inl f))) b mi (up2 mr 7 f) mt ms → at' ≤ k → (∀ q, at' ≤ q → q < k → m (20 + 8 * k + 6) < m (20 + 8 * rk q + 6)) → (∀ q, q < at' → f q = f0 q) → (∀ q, at' < q → q ≤ k → f q = f0 (q - 1)) → ex_ X d 22 12 [.ref b, .int (nI k), .int (nI at')] [] (h.set (b + 7) (.inl (0, 6, .inl f))) Q := by
  intro at'
  induction at' with
  | zero =>
    intro f r ha h1 h2 h3
    rw [i22_12]
    simp only [i22_0, i22_1, i22_2, i22_3, i22_4, i22_7, i22_10, i22_11, i22_13, i22_16, i22_17, i22_20, i22_21, i22_24, i22_25, i22_26, i22_27, i22_28, i22_29, i22_30, i22_33, i22_34, i22_35, i22_38, i22_39, i22_42, i22_43, i22_44, i22_47, i22_48, i22_49, i22_50, i22_51, i22_52, i22_55, i22_59, i22_62, i22_63, i22_64, i22_65, i22_68, i22_71, i22_e, show (nI 0 : Int32) ≤ 0 from by decide, if_true, true_and, and_true, eq_self, true_or, or_true, bi_01, mx_nl_i, mx_nl_r, mx_nl_n, mx_nl_f, mx_nl_d]
    exact fin 0 f r ha (fun q hq => by omega) h1 h2 h3
  | succ a ih =>
    intro f r ha h1 h2 h3
    have hp : ¬ (nI (a + 1) : Int32) ≤ 0 := nI_nle (by omega) (by omega)
    have g7 := r.g7
    rw [up2_s] at g7
    have g6 := r.g6
    rw [up2_n (by decide)] at g6
    have fa : f a = nI (rk a) := by rw [h2 a (by omega)]; exact (R.1 a (by omega)).1
    have ra := (R.1 a (by omega)).2
    have s1 := (q.2.2.1 (rk a) (by omega)).2.2
    have s2 := (q.2.2.1 k hk).2.2
    by_cases c : m (20 + 8 * rk a + 6) ≤ m (20 + 8 * k + 6)
    · rw [i22_12]
      simp only [i22_0, i22_1, i22_2, i22_3, i22_4, i22_7, i22_10, i22_11, i22_13, i22_16, i22_17, i22_20, i22_21, i22_24, i22_25, i22_26, i22_27, i22_28, i22_29, i22_30, i22_33, i22_34, i22_35, i22_38, i22_39, i22_42, i22_43, i22_44, i22_47, i22_48, i22_49, i22_50, i22_51, i22_52, i22_55, i22_59, i22_62, i22_63, i22_64, i22_65, i22_68, i22_71, i22_e, hp, if_false, kof_gk r.o, kof_gv r.o, nI_pred, ar_ik g7, ar_ia g7, mx_inN (show a < 6 by omega) (show 6 < 2 ^ 31 by decide), nI_clamp (show a < 2 ^ 31 by omega), fa, ar_ik g6, ar_ia g6, mx_inN (show rk a < 6 by omega) (show 6 < 2 ^ 31 by decide), nI_clamp (show rk a < 2 ^ 31 by omega), mx_inN (show k < 6 by omega) (show 6 < 2 ^ 31 by decide), nI_clamp (show k < 2 ^ 31 by omega), s1, s2, c, if_true, true_and, and_true, eq_self, true_or, or_true, bi_01, mx_nl_i, mx_nl_r, mx_nl_n, mx_nl_f, mx_nl_d]
      refine fin (a + 1) f r ha (fun q' hq' => ?_) h1 h2 h3
      by_cases e : q' = a
      · rw [e]; exact c
      · rcases R.2.2 q' a (by omega) (by omega) with l | ⟨l, _⟩
        · exact Int32.le_trans (Int32.le_of_lt l) c
        · simp only at l; rw [l]; exact c
    · have r2 := r.s7' (g := upd f (a + 1) (nI (rk a)))
      rw [List.set_set] at r2
      have m1 : (nI (a + 1) + (-1) : Int32) = nI a := pk_m1 a
      rw [i22_12]
      simp only [i22_0, i22_1, i22_2, i22_3, i22_4, i22_7, i22_10, i22_11, i22_13, i22_16, i22_17, i22_20, i22_21, i22_24, i22_25, i22_26, i22_27, i22_28, i22_29, i22_30, i22_33, i22_34, i22_35, i22_38, i22_39, i22_42, i22_43, i22_44, i22_47, i22_48, i22_49, i22_50, i22_51, i22_52, i22_55, i22_59, i22_62, i22_63, i22_64, i22_65, i22_68, i22_71, i22_e, hp, if_false, kof_gk r.o, kof_gv r.o, nI_pred, ar_ik g7, ar_ia g7, ar_is g7, mx_inN (show a < 6 by omega) (show 6 < 2 ^ 31 by decide), nI_clamp (show a < 2 ^ 31 by omega), mx_inN (show a + 1 < 6 by omega) (show 6 < 2 ^ 31 by decide), nI_clamp (show a + 1 < 2 ^ 31 by omega), fa, ar_ik g6, ar_ia g6, mx_inN (show rk a < 6 by omega) (show 6 < 2 ^ 31 by decide), nI_clamp (show rk a < 2 ^ 31 by omega), mx_inN (show k < 6 by omega) (show 6 < 2 ^ 31 by decide), nI_clamp (show k < 2 ^ 31 by omega), s1, s2, c, List.set_set, m1, true_and, and_true, eq_self, true_or, or_true, bi_01, mx_nl_i, mx_nl_r, mx_nl_n, mx_nl_f, mx_nl_d]
      refine ih _ r2 (by omega) (fun q' h4 h5 => ?_) (fun q' h4 => ?_) (fun q' h4 h5 => ?_)
      · by_cases e : q' = a
        · rw [e]; exact Int32.not_le.mp c
        · exact h1 q' (by omega) h5
      · rw [pk_un (by omega)]; exact h2 q' (by omega)
      · by_cases e : q' = a + 1
        · rw [e, pk_us, ← fa, h2 a (by omega)]; rfl
        · rw [pk_un e]; exact h3 q' (by omega) h5
set_option maxHeartbeats 2000000 in
theorem k_rank_l (hb : b ≤ 84) (hns : ns ≤ 6) (k' : ∀ h' f rk, MK7 h' b m G ns nb f → RK f (fun s => m (20 + 8 * s + 6)) ns rk → FX b (b + 12) h h' → Q none h') : ∀ (n k : Nat) (h1 : MXH) (f : Nat → Int32) (rk : Nat → Nat) (w2 : Value), k + n = ns → MK7 h1 b m G ns nb f → RK f (fun s => m (20 + 8 * s + 6)) k rk → FX b (b + 12) h h1 → ex_ X d 22 2 [.ref b, .int (nI k), w2] [] h1 Q := by
  intro n
  induction n with
  | zero =>
    intro k h1 f rk w2 hk mk R fx
    have e : k = ns := by omega
    subst e
    have mk0 := mk
    obtain ⟨mi, mr, mt, ms, r, q, mx, e7⟩ := mk
    rw [i22_2]
    simp only [i22_0, i22_1, i22_3, i22_4, i22_7, i22_10, i22_11, i22_12, i22_13, i22_16, i22_17, i22_20, i22_21, i22_24, i22_25, i22_26, i22_27, i22_28, i22_29, i22_30, i22_33, i22_34, i22_35, i22_38, i22_39, i22_42, i22_43, i22_44, i22_47, i22_48, i22_49, i22_50, i22_51, i22_52, i22_55, i22_58, i22_59, i22_62, i22_63, i22_64, i22_65, i22_68, i22_71, i22_e, kof_gk r.o, kof_gv r.o, q.1.2.2.2.2.1, Int32.le_refl, if_true, true_and, and_true, eq_self, true_or, or_true, bi_01, mx_nl_i, mx_nl_r, mx_nl_n, mx_nl_f, mx_nl_d]
    exact k' h1 f rk mk0 R fx
  | succ n ih =>
    intro k h1 f rk w2 hk mk R fx
    have hlt : k < ns := by omega
    have hc : ¬ ((nI ns : Int32) ≤ nI k) := by rw [nI_leI (by omega) (by omega)]; omega
    obtain ⟨mi, mr, mt, ms, r, q, mx, e7⟩ := mk
    have e0 : h1.set (b + 7) (.inl (0, 6, .inl f)) = h1 := mx_setid (by rw [← e7]; exact r.g7)
    have eu : up2 mr 7 f = mr := by
      funext i
      by_cases c : i = 7
      · subst c; rw [up2_s, e7]
      · rw [up2_n c]
    have r0 : KM (h1.set (b + 7) (.inl (0, 6, .inl f))) b mi (up2 mr 7 f) mt ms := by rw [e0, eu]; exact r
    have key := k_rank_i (X := X) (d := d) (Q := Q) (h := h1) (b := b) (mt := mt) (ms := ms) hns hlt q R (fun at' g rg ha lo hi g1 g2 => by
      have rg2 := rg.s7' (g := upd g at' (nI k))
      rw [List.set_set] at rg2
      have g7 := rg.g7
      rw [up2_s] at g7
      have fx2 : FX b (b + 12) h1 (h1.set (b + 7) (.inl (0, 6, .inl (upd g at' (nI k))))) := FX.set (by omega) (by omega) (by omega)
      simp only [i22_0, i22_1, i22_3, i22_4, i22_7, i22_10, i22_11, i22_12, i22_13, i22_16, i22_17, i22_20, i22_21, i22_24, i22_25, i22_26, i22_27, i22_28, i22_29, i22_30, i22_33, i22_34, i22_35, i22_38, i22_39, i22_42, i22_43, i22_44, i22_47, i22_48, i22_49, i22_50, i22_51, i22_52, i22_55, i22_58, i22_59, i22_62, i22_63, i22_64, i22_65, i22_68, i22_71, i22_e, kof_gk rg.o, kof_gv rg.o, ar_ik g7, ar_is g7, mx_inN (show at' < 6 by omega) (show 6 < 2 ^ 31 by decide), nI_clamp (show at' < 2 ^ 31 by omega), List.set_set, nI_1, true_and, and_true, eq_self, true_or, or_true, bi_01, mx_nl_i, mx_nl_r, mx_nl_n, mx_nl_f, mx_nl_d]
      refine ih (k + 1) _ (upd g at' (nI k)) _ _ (by omega) ⟨mi, _, mt, ms, rg2, q.u7, mx.ev fx2.2.2, up2_s 7⟩ (R.ins ha lo hi (fun q hq => ?_) pk_us (fun q h3 h4 => ?_)) (fx.tr fx2)
      · rw [pk_un (by omega)]; exact g1 q hq
      · rw [pk_un (by omega)]; exact g2 q h3 h4) k f r0 (Nat.le_refl k) (fun q h1 h2 => by omega) (fun q hq => rfl) (fun q h1 h2 => by omega)
    rw [e0] at key
    rw [i22_2]
    simp only [i22_0, i22_1, i22_3, i22_4, i22_7, i22_10, i22_11, i22_13, i22_16, i22_17, i22_20, i22_21, i22_24, i22_25, i22_26, i22_27, i22_28, i22_29, i22_30, i22_33, i22_34, i22_35, i22_38, i22_39, i22_42, i22_43, i22_44, i22_47, i22_48, i22_49, i22_50, i22_51, i22_52, i22_55, i22_58, i22_59, i22_62, i22_63, i22_64, i22_65, i22_68, i22_71, i22_e, kof_gk r.o, kof_gv r.o, q.1.2.2.2.2.1, hc, if_false, true_and, and_true, eq_self, true_or, or_true, bi_01, mx_nl_i, mx_nl_r, mx_nl_n, mx_nl_f, mx_nl_d]
    exact key
theorem k_rank (hb : b ≤ 84) (hns : ns ≤ 6) (mk : MK h b m G ns nb) (k' : ∀ h' f rk, MK7 h' b m G ns nb f → RK f (fun s => m (20 + 8 * s + 6)) ns rk → FX b (b + 12) h h' → Q none h') : ev_ X d 22 [.ref b] h Q := by
  simp only [i22_0, i22_1, i22_3, i22_4, i22_7, i22_10, i22_11, i22_12, i22_13, i22_16, i22_17, i22_20, i22_21, i22_24, i22_25, i22_26, i22_27, i22_28, i22_29, i22_30, i22_33, i22_34, i22_35, i22_38, i22_39, i22_42, i22_43, i22_44, i22_47, i22_48, i22_49, i22_50, i22_51, i22_52, i22_55, i22_58, i22_59, i22_62, i22_63, i22_64, i22_65, i22_68, i22_71, i22_e, true_and, and_true, eq_self, true_or, or_true, bi_01, mx_nl_i, mx_nl_r, mx_nl_n, mx_nl_f, mx_nl_d]
  obtain ⟨mi, mr, mt, ms, r, q, mx⟩ := mk
  exact k_rank_l (h := h) hb hns k' ns 0 h (mr 7) (fun _ => 0) _ (by omega) ⟨mi, mr, mt, ms, r, q, mx, rfl⟩ ⟨fun q hq => by omega, fun q hq => by omega, fun p q h1 h2 => by omega⟩ (FX.rf h)
set_option maxHeartbeats 2000000 in
theorem k_serve_l {ff : Nat → Int32} {rk : Nat → Nat} {c : Nat} {f : Int32} (hb : b ≤ 84) (hns : ns ≤ 6) (hnb : nb ≤ 8) (hc8 : c < nb) (hrk : ∀ q, q < ns → ff q = nI (rk q) ∧ rk q < ns) {R : (Nat → Int32) × Int32}
    (fin : ∀ (h' : MXH) (w4 w5 w6 : Value), MK7 h' b R.1 G ns nb ff → FX b (b + 12) h h' → ex_ X (d + 3) 23 145 [.ref b, .int (nI c), .int R.2, .int f, w4, w5, w6] [] h' Q) :
    ∀ (n r : Nat) (m1 : Nat → Int32) (th : Int32) (h1 : MXH) (w5 w6 : Value), r + n = ns → MK7 h1 b m1 G ns nb ff → FX b (b + 12) h h1 → sv_ G rk c f n r m1 th = R → ex_ X (d + 3) 23 23 [.ref b, .int (nI c), .int th, .int f, .int (nI r), w5, w6] [] h1 Q := by
  intro n
  induction n with
  | zero =>
    intro r m1 th h1 w5 w6 hr mk fx hR
    have e : r = ns := by omega
    subst e
    have mk0 := mk
    obtain ⟨mi, mr, mt, ms, km, q, mx, e7⟩ := mk
    rw [i23_23]
    simp only [i23_0, i23_1, i23_4, i23_5, i23_6, i23_7, i23_10, i23_11, i23_12, i23_13, i23_14, i23_15, i23_16, i23_19, i23_20, i23_21, i23_25, i23_26, i23_29, i23_32, i23_33, i23_36, i23_37, i23_40, i23_42, i23_43, i23_45, i23_46, i23_49, i23_51, i23_52, i23_55, i23_56, i23_57, i23_58, i23_61, i23_63, i23_64, i23_65, i23_66, i23_69, i23_70, i23_71, i23_72, i23_75, i23_78, i23_81, i23_82, i23_83, i23_86, i23_88, i23_89, i23_92, i23_94, i23_95, i23_98, i23_100, i23_101, i23_102, i23_104, i23_105, i23_106, i23_107, i23_110, i23_112, i23_113, i23_116, i23_118, i23_119, i23_121, i23_122, i23_125, i23_127, i23_128, i23_129, i23_130, i23_133, i23_134, i23_135, i23_137, i23_138, i23_139, i23_142, i23_146, i23_149, i23_150, i23_151, i23_154, i23_155, i23_156, i23_159, i23_160, i23_163, i23_164, i23_166, i23_169, i23_170, i23_e, kof_gk km.o, kof_gv km.o, q.1.2.2.2.2.1, Int32.le_refl, if_true, true_and, and_true, eq_self, true_or, or_true, bi_01, mx_nl_i, mx_nl_r, mx_nl_n, mx_nl_f, mx_nl_d]
    unfold sv_ at hR
    subst hR
    exact fin h1 _ _ _ mk0 fx
  | succ n ih =>
    intro r m1 th h1 w5 w6 hr mk fx hR
    have hlt : r < ns := by omega
    have hc : ¬ ((nI ns : Int32) ≤ nI r) := by rw [nI_leI (by omega) (by omega)]; omega
    have mk0 := mk
    obtain ⟨mi, mr, mt, ms, km, q, mx, e7⟩ := mk
    unfold sv_ at hR
    by_cases hth : th ≤ 0
    · rw [if_pos hth] at hR
      subst hR
      rw [i23_23]
      simp only [i23_0, i23_1, i23_4, i23_5, i23_6, i23_7, i23_10, i23_11, i23_12, i23_13, i23_14, i23_15, i23_16, i23_19, i23_20, i23_21, i23_25, i23_26, i23_29, i23_32, i23_33, i23_36, i23_37, i23_40, i23_42, i23_43, i23_45, i23_46, i23_49, i23_51, i23_52, i23_55, i23_56, i23_57, i23_58, i23_61, i23_63, i23_64, i23_65, i23_66, i23_69, i23_70, i23_71, i23_72, i23_75, i23_78, i23_81, i23_82, i23_83, i23_86, i23_88, i23_89, i23_92, i23_94, i23_95, i23_98, i23_100, i23_101, i23_102, i23_104, i23_105, i23_106, i23_107, i23_110, i23_112, i23_113, i23_116, i23_118, i23_119, i23_121, i23_122, i23_125, i23_127, i23_128, i23_129, i23_130, i23_133, i23_134, i23_135, i23_137, i23_138, i23_139, i23_142, i23_146, i23_149, i23_150, i23_151, i23_154, i23_155, i23_156, i23_159, i23_160, i23_163, i23_164, i23_166, i23_169, i23_170, i23_e, kof_gk km.o, kof_gv km.o, q.1.2.2.2.2.1, hc, hth, if_true, if_false, true_and, and_true, eq_self, true_or, or_true, bi_01, mx_nl_i, mx_nl_r, mx_nl_n, mx_nl_f, mx_nl_d]
      exact fin h1 _ _ _ mk0 fx
    · rw [if_neg hth] at hR
      obtain ⟨f1, f2⟩ := hrk r hlt
      obtain ⟨q4, q5, q6⟩ := q.2.2.1 (rk r) f2
      have g7 := km.g7
      rw [e7] at g7
      have i6 : mx_in (nI (rk r)) 6 = true := mx_inN (by omega) (by decide)
      by_cases hst : m1 (20 + 8 * rk r + 4) ≤ 0
      · rw [if_neg (fun z => Int32.not_le.mpr z.1 hst)] at hR
        rw [i23_23]
        simp only [i23_0, i23_1, i23_4, i23_5, i23_6, i23_7, i23_10, i23_11, i23_12, i23_13, i23_14, i23_15, i23_16, i23_19, i23_20, i23_21, i23_25, i23_26, i23_29, i23_32, i23_33, i23_36, i23_37, i23_40, i23_42, i23_43, i23_45, i23_46, i23_49, i23_51, i23_52, i23_55, i23_56, i23_57, i23_58, i23_61, i23_63, i23_64, i23_65, i23_66, i23_69, i23_70, i23_71, i23_72, i23_75, i23_78, i23_81, i23_82, i23_83, i23_86, i23_88, i23_89, i23_92, i23_94, i23_95, i23_98, i23_100, i23_101, i23_102, i23_104, i23_105, i23_106, i23_107, i23_110, i23_112, i23_113, i23_116, i23_118, i23_119, i23_121, i23_122, i23_125, i23_127, i23_128, i23_129, i23_130, i23_133, i23_134, i23_135, i23_137, i23_138, i23_139, i23_142, i23_146, i23_149, i23_150, i23_151, i23_154, i23_155, i23_156, i23_159, i23_160, i23_163, i23_164, i23_166, i23_169, i23_170, i23_e, kof_gk km.o, kof_gv km.o, q.1.2.2.2.2.1, hc, hth, if_false, ar_ik g7, ar_ia g7, mx_inN (show r < 6 by omega) (show 6 < 2 ^ 31 by decide), nI_clamp (show r < 2 ^ 31 by omega), f1, ar_ik km.g4, ar_ia km.g4, i6, nI_clamp (show rk r < 2 ^ 31 by omega), q4, hst, if_true, nI_1, true_and, and_true, eq_self, true_or, or_true, bi_01, mx_nl_i, mx_nl_r, mx_nl_n, mx_nl_f, mx_nl_d]
        exact ih (r + 1) m1 th h1 _ _ (by omega) mk0 fx hR
      · rw [i23_23]
        have q10 := (q.2.2.2 c hc8).2.2.1
        simp only [i23_0, i23_1, i23_4, i23_5, i23_6, i23_7, i23_10, i23_11, i23_12, i23_13, i23_14, i23_15, i23_16, i23_19, i23_20, i23_21, i23_25, i23_26, i23_29, i23_32, i23_33, i23_36, i23_37, i23_40, i23_42, i23_43, i23_45, i23_46, i23_49, i23_51, i23_52, i23_55, i23_56, i23_57, i23_58, i23_61, i23_63, i23_64, i23_65, i23_66, i23_69, i23_70, i23_71, i23_72, i23_75, i23_78, i23_81, i23_82, i23_83, i23_86, i23_88, i23_89, i23_92, i23_94, i23_95, i23_98, i23_100, i23_101, i23_102, i23_104, i23_105, i23_106, i23_107, i23_110, i23_112, i23_113, i23_116, i23_118, i23_119, i23_121, i23_122, i23_125, i23_127, i23_128, i23_129, i23_130, i23_133, i23_134, i23_135, i23_137, i23_138, i23_139, i23_142, i23_146, i23_149, i23_150, i23_151, i23_154, i23_155, i23_156, i23_159, i23_160, i23_163, i23_164, i23_166, i23_169, i23_170, i23_e, kof_gk km.o, kof_gv km.o, q.1.2.2.2.2.1, hc, hth, if_false, ar_ik g7, ar_ia g7, mx_inN (show r < 6 by omega) (show 6 < 2 ^ 31 by decide), nI_clamp (show r < 2 ^ 31 by omega), f1, ar_ik km.g4, ar_ia km.g4, i6, nI_clamp (show rk r < 2 ^ 31 by omega), q4, hst, ar_ik km.g6, ar_ia km.g6, q6, ar_ik km.g10, ar_ia km.g10, mx_inN (show c < 8 by omega) (show 8 < 2 ^ 31 by decide), nI_clamp (show c < 2 ^ 31 by omega), q10, q.1.1, ob_co km.o, true_and, and_true, eq_self, true_or, or_true, bi_01, mx_nl_i, mx_nl_r, mx_nl_n, mx_nl_f, mx_nl_d]
        refine k_gives (u := 1) km mx (by decide) (fun h2 fx2 => ?_)
        have km2 := km.fx fx2 hb (by omega)
        have mx2 := mx.ev fx2.2.2
        have fx3 : FX b (b + 12) h h2 := fx.tr (fx2.wd (by omega))
        by_cases hg : G 1 (m1 (20 + 8 * rk r + 6)) f (m1 (70 + 4 * c + 2)) (m1 0) = 0
        · rw [if_neg (fun z => z.2 hg)] at hR
          simp only [i23_0, i23_1, i23_4, i23_5, i23_6, i23_7, i23_10, i23_11, i23_12, i23_13, i23_14, i23_15, i23_16, i23_19, i23_20, i23_21, i23_25, i23_26, i23_29, i23_32, i23_33, i23_36, i23_37, i23_40, i23_42, i23_43, i23_45, i23_46, i23_49, i23_51, i23_52, i23_55, i23_56, i23_57, i23_58, i23_61, i23_63, i23_64, i23_65, i23_66, i23_69, i23_70, i23_71, i23_72, i23_75, i23_78, i23_81, i23_82, i23_83, i23_86, i23_88, i23_89, i23_92, i23_94, i23_95, i23_98, i23_100, i23_101, i23_102, i23_104, i23_105, i23_106, i23_107, i23_110, i23_112, i23_113, i23_116, i23_118, i23_119, i23_121, i23_122, i23_125, i23_127, i23_128, i23_129, i23_130, i23_133, i23_134, i23_135, i23_137, i23_138, i23_139, i23_142, i23_146, i23_149, i23_150, i23_151, i23_154, i23_155, i23_156, i23_159, i23_160, i23_163, i23_164, i23_166, i23_169, i23_170, i23_e, hg, if_true, nI_1, Option.toList_some, Option.toList_none, List.nil_append, List.cons_append, true_and, and_true, eq_self, true_or, or_true, bi_01, mx_nl_i, mx_nl_r, mx_nl_n, mx_nl_f, mx_nl_d]
          exact ih (r + 1) m1 th h2 _ _ (by omega) ⟨mi, mr, mt, ms, km2, q, mx2, e7⟩ fx3 hR
        · rw [if_pos ⟨Int32.not_le.mp hst, hg⟩] at hR
          have eb : (if m1 (20 + 8 * rk r + 4) < th then m1 (20 + 8 * rk r + 4) else th) = (if m1 (20 + 8 * rk r + 4) ≤ th then m1 (20 + 8 * rk r + 4) else th) := by
            by_cases c1 : m1 (20 + 8 * rk r + 4) < th
            · rw [if_pos c1, if_pos (Int32.le_of_lt c1)]
            · rw [if_neg c1]
              by_cases c2 : m1 (20 + 8 * rk r + 4) ≤ th
              · rw [if_pos c2]; exact Int32.le_antisymm (Int32.not_lt.mp c1) c2
              · rw [if_neg c2]
          unfold b1_ at hR
          rw [if_neg hg] at hR
          simp only at hR
          generalize hbu : (if m1 (20 + 8 * rk r + 4) ≤ th then m1 (20 + 8 * rk r + 4) else th) = bu at hR eb
          have k4 := km2.s4 (f := upd (mr 4) (rk r) (m1 (20 + 8 * rk r + 4) - bu))
          have g5 := k4.g5
          rw [up2_n (by decide)] at g5
          have g6 := k4.g6
          rw [up2_n (by decide)] at g6
          have k5 := k4.s5 (f := upd (mr 5) (rk r) (hd_ (m1 (20 + 8 * rk r + 5) + bu * m1 (20 + 8 * rk r + 6)) (-99999999) 99999999))
          have qq := (q.u4 hns f2 (x := m1 (20 + 8 * rk r + 4) - bu)).u5 hns f2 (x := hd_ (m1 (20 + 8 * rk r + 5) + bu * m1 (20 + 8 * rk r + 6)) (-99999999) 99999999)
          rw [up2_n (show 5 ≠ 4 by decide)] at qq
          have em : upd (upd m1 (20 + 8 * rk r + 4) (m1 (20 + 8 * rk r + 4) - bu)) (20 + 8 * rk r + 5) (hd_ (m1 (20 + 8 * rk r + 5) + bu * m1 (20 + 8 * rk r + 6)) (-99999999) 99999999) = ea_ (upd m1 (20 + 8 * rk r + 4) (m1 (20 + 8 * rk r + 4) - bu)) (rk r) (bu * m1 (20 + 8 * rk r + 6)) := by
            unfold ea_
            rw [pk_un (j := 20 + 8 * rk r + 5) (show 20 + 8 * rk r + 5 ≠ 20 + 8 * rk r + 4 by omega)]
          have fx4 : FX b (b + 12) h2 ((h2.set (b + 4) (.inl (0, 6, .inl (upd (mr 4) (rk r) (m1 (20 + 8 * rk r + 4) - bu))))).set (b + 5) (.inl (0, 6, .inl (upd (mr 5) (rk r) (hd_ (m1 (20 + 8 * rk r + 5) + bu * m1 (20 + 8 * rk r + 6)) (-99999999) 99999999))))) := (FX.set (by omega) (by omega) (by omega)).tr (FX.set (by omega) (by omega) (by omega))
          simp only [i23_0, i23_1, i23_4, i23_5, i23_6, i23_7, i23_10, i23_11, i23_12, i23_13, i23_14, i23_15, i23_16, i23_19, i23_20, i23_21, i23_25, i23_26, i23_29, i23_32, i23_33, i23_36, i23_37, i23_40, i23_42, i23_43, i23_45, i23_46, i23_49, i23_51, i23_52, i23_55, i23_56, i23_57, i23_58, i23_61, i23_63, i23_64, i23_65, i23_66, i23_69, i23_70, i23_71, i23_72, i23_75, i23_78, i23_81, i23_82, i23_83, i23_86, i23_88, i23_89, i23_92, i23_94, i23_95, i23_98, i23_100, i23_101, i23_102, i23_104, i23_105, i23_106, i23_107, i23_110, i23_112, i23_113, i23_116, i23_118, i23_119, i23_121, i23_122, i23_125, i23_127, i23_128, i23_129, i23_130, i23_133, i23_134, i23_135, i23_137, i23_138, i23_139, i23_142, i23_146, i23_149, i23_150, i23_151, i23_154, i23_155, i23_156, i23_159, i23_160, i23_163, i23_164, i23_166, i23_169, i23_170, i23_e, hg, if_false, kof_gk km2.o, kof_gv km2.o, ar_ik km2.g4, ar_ia km2.g4, ar_is km2.g4, i6, nI_clamp (show rk r < 2 ^ 31 by omega), q4, eb, kof_gk k4.o, kof_gv k4.o, ar_ik g5, ar_ia g5, ar_is g5, ar_ik g6, ar_ia g6, q5, q6, k_hPurse, nI_1, Option.toList_some, Option.toList_none, List.nil_append, List.cons_append, true_and, and_true, eq_self, true_or, or_true, bi_01, mx_nl_i, mx_nl_r, mx_nl_n, mx_nl_f, mx_nl_d]
          refine ih (r + 1) _ (th - bu) _ _ _ (by omega) ⟨mi, _, mt, ms, k5, qq, ?_, ?_⟩ (fx3.tr fx4) ?_
          · exact (mx2.ev fx4.2.2).cg (fun s hs j hj => by rw [pk_un (by omega), pk_un (by omega)])
          · rw [up2_n (by decide), up2_n (by decide)]; exact e7
          · rw [em]; exact hR
theorem k_serve {ff : Nat → Int32} {rk : Nat → Nat} {c : Nat} (hb : b ≤ 84) (hns : ns ≤ 6) (hnb : nb ≤ 8) (hc8 : c < nb) (di : DI m) (h3 : ∃ e : Nat, e < 3 ∧ m 3 = nI e) (R : RK ff (fun s => m (20 + 8 * s + 6)) ns rk) (sl : ∀ s, s < ns → 0 ≤ m (20 + 8 * s + 6)) (mk : MK7 h b m G ns nb ff)
    (k' : ∀ h', MK7 h' b (go_ G m ns c) G ns nb ff → FX b (b + 12) h h' → Q none h') : ev_ X (d + 3) 23 [.ref b, .int (nI c)] h Q := by
  have mk0 := mk
  obtain ⟨mi, mr, mt, ms, km, q, mx, e7⟩ := mk
  obtain ⟨q8, q9, q10, q11⟩ := q.2.2.2 c hc8
  have eg := go_sv (G := G) (b := c) hns R sl
  obtain ⟨x, hx, e0⟩ := (di.2 c (by omega)).1
  obtain ⟨y, hy, e3⟩ := (di.2 c (by omega)).2
  have gn := (gl_ni (G := G) (b := c) (f := fe_ m c) hns 6 m (fun _ => 0) (m (70 + 4 * c + 3) + m (70 + 4 * c + 0)) (fun s hs => (di.1 s hs).2.2.1) ⟨y + x, by omega, by rw [e0, e3, nI_add]⟩).2
  rw [← sv_gl hns ns 0 m (fun _ => 0) _ 6 (by omega) R sl (fun q hq => by omega) (fun _ _ _ => rfl) (by decide)] at gn
  have se : (sv_ G rk c (fe_ m c) ns 0 m (m (70 + 4 * c + 3) + m (70 + 4 * c + 0))).1 (70 + 4 * c + 2) = m (70 + 4 * c + 2) := by
    rw [sv_gl hns ns 0 m (fun _ => 0) _ 6 (by omega) R sl (fun q hq => by omega) (fun _ _ _ => rfl) (by decide)]
    exact gl_kp hns _ _ _ _ _ (by omega)
  generalize hR : sv_ G rk c (fe_ m c) ns 0 m (m (70 + 4 * c + 3) + m (70 + 4 * c + 0)) = Rr at eg gn se
  obtain ⟨t, ht, et⟩ := gn
  simp only [i23_0, i23_1, i23_4, i23_5, i23_6, i23_7, i23_10, i23_11, i23_12, i23_13, i23_14, i23_15, i23_16, i23_19, i23_20, i23_21, i23_25, i23_26, i23_29, i23_32, i23_33, i23_36, i23_37, i23_40, i23_42, i23_43, i23_45, i23_46, i23_49, i23_51, i23_52, i23_55, i23_56, i23_57, i23_58, i23_61, i23_63, i23_64, i23_65, i23_66, i23_69, i23_70, i23_71, i23_72, i23_75, i23_78, i23_81, i23_82, i23_83, i23_86, i23_88, i23_89, i23_92, i23_94, i23_95, i23_98, i23_100, i23_101, i23_102, i23_104, i23_105, i23_106, i23_107, i23_110, i23_112, i23_113, i23_116, i23_118, i23_119, i23_121, i23_122, i23_125, i23_127, i23_128, i23_129, i23_130, i23_133, i23_134, i23_135, i23_137, i23_138, i23_139, i23_142, i23_145, i23_146, i23_149, i23_150, i23_151, i23_154, i23_155, i23_156, i23_159, i23_160, i23_163, i23_164, i23_166, i23_169, i23_170, i23_e, kof_gk km.o, kof_gv km.o, ar_ik km.g11, ar_ia km.g11, ar_ik km.g8, ar_ia km.g8, mx_inN (show c < 8 by omega) (show 8 < 2 ^ 31 by decide), nI_clamp (show c < 2 ^ 31 by omega), q8, q11, ob_co km.o, k_feels km q hc8 hnb h3, Option.toList_some, Option.toList_none, List.nil_append, List.cons_append, true_and, and_true, eq_self, true_or, or_true, bi_01, mx_nl_i, mx_nl_r, mx_nl_n, mx_nl_f, mx_nl_d]
  refine k_serve_l (h := h) (ff := ff) (rk := rk) hb hns hnb hc8 R.1 (R := Rr) ?_ ns 0 m _ h _ _ (by omega) mk0 (FX.rf h) hR
  intro h2 w4 w5 w6 mk2 fx2
  obtain ⟨mi2, mr2, mt2, ms2, km2, q2, mx2, e72⟩ := mk2
  obtain ⟨z8, z9, z10, z11⟩ := q2.2.2.2 c hc8
  rw [se] at z10
  have fin : ∀ x : Int32, x = (if m (70 + 4 * c + 2) = 0 then 0 else hd_ Rr.2 0 99) → Q none (h2.set (b + 11) (.inl (0, 8, .inl (upd (mr2 11) c x)))) := by
    intro x hx
    have fx3 : FX b (b + 12) h2 (h2.set (b + 11) (.inl (0, 8, .inl (upd (mr2 11) c x)))) := FX.set (by omega) (by omega) (by omega)
    refine k' _ ⟨mi2, _, mt2, ms2, km2.s11, ?_, ?_, ?_⟩ (fx2.tr fx3)
    · rw [eg, ← hx]; exact q2.u11 hns hnb hc8
    · rw [eg]; exact (mx2.ev fx3.2.2).cg (fun s hs j hj => by rw [pk_un (by omega)])
    · rw [up2_n (by decide)]; exact e72
  by_cases c0 : m (70 + 4 * c + 2) = 0
  · have := fin 0 (by rw [if_pos c0])
    simp only [i23_0, i23_1, i23_4, i23_5, i23_6, i23_7, i23_10, i23_11, i23_12, i23_13, i23_14, i23_15, i23_16, i23_19, i23_20, i23_21, i23_25, i23_26, i23_29, i23_32, i23_33, i23_36, i23_37, i23_40, i23_42, i23_43, i23_45, i23_46, i23_49, i23_51, i23_52, i23_55, i23_56, i23_57, i23_58, i23_61, i23_63, i23_64, i23_65, i23_66, i23_69, i23_70, i23_71, i23_72, i23_75, i23_78, i23_81, i23_82, i23_83, i23_86, i23_88, i23_89, i23_92, i23_94, i23_95, i23_98, i23_100, i23_101, i23_102, i23_104, i23_105, i23_106, i23_107, i23_110, i23_112, i23_113, i23_116, i23_118, i23_119, i23_121, i23_122, i23_125, i23_127, i23_128, i23_129, i23_130, i23_133, i23_134, i23_135, i23_137, i23_138, i23_139, i23_142, i23_145, i23_146, i23_149, i23_150, i23_151, i23_154, i23_155, i23_156, i23_159, i23_160, i23_163, i23_164, i23_166, i23_169, i23_170, i23_e, kof_gk km2.o, kof_gv km2.o, ar_ik km2.g10, ar_ia km2.g10, ar_ik km2.g11, ar_is km2.g11, mx_inN (show c < 8 by omega) (show 8 < 2 ^ 31 by decide), nI_clamp (show c < 2 ^ 31 by omega), z10, c0, not_true_eq_false, if_false, Option.toList_some, Option.toList_none, List.nil_append, List.cons_append, true_and, and_true, eq_self, true_or, or_true, bi_01, mx_nl_i, mx_nl_r, mx_nl_n, mx_nl_f, mx_nl_d]
    exact this
  · have := fin (hd_ Rr.2 0 99) (by rw [if_neg c0])
    simp only [i23_0, i23_1, i23_4, i23_5, i23_6, i23_7, i23_10, i23_11, i23_12, i23_13, i23_14, i23_15, i23_16, i23_19, i23_20, i23_21, i23_25, i23_26, i23_29, i23_32, i23_33, i23_36, i23_37, i23_40, i23_42, i23_43, i23_45, i23_46, i23_49, i23_51, i23_52, i23_55, i23_56, i23_57, i23_58, i23_61, i23_63, i23_64, i23_65, i23_66, i23_69, i23_70, i23_71, i23_72, i23_75, i23_78, i23_81, i23_82, i23_83, i23_86, i23_88, i23_89, i23_92, i23_94, i23_95, i23_98, i23_100, i23_101, i23_102, i23_104, i23_105, i23_106, i23_107, i23_110, i23_112, i23_113, i23_116, i23_118, i23_119, i23_121, i23_122, i23_125, i23_127, i23_128, i23_129, i23_130, i23_133, i23_134, i23_135, i23_137, i23_138, i23_139, i23_142, i23_145, i23_146, i23_149, i23_150, i23_151, i23_154, i23_155, i23_156, i23_159, i23_160, i23_163, i23_164, i23_166, i23_169, i23_170, i23_e, kof_gk km2.o, kof_gv km2.o, ar_ik km2.g10, ar_ia km2.g10, ar_ik km2.g11, ar_is km2.g11, mx_inN (show c < 8 by omega) (show 8 < 2 ^ 31 by decide), nI_clamp (show c < 2 ^ 31 by omega), z10, c0, not_false_eq_true, if_true, min99 (show t ≤ 1000 by omega) et, Option.toList_some, Option.toList_none, List.nil_append, List.cons_append, true_and, and_true, eq_self, true_or, or_true, bi_01, mx_nl_i, mx_nl_r, mx_nl_n, mx_nl_f, mx_nl_d]
    exact this
/-- the sorts of a day -/
theorem k_day_s {ff : Nat → Int32} {rk : Nat → Nat} {w1 w2 : Value} {m0 : Nat → Int32} (hb : b ≤ 84) (hns : ns ≤ 6) (hnb : nb ≤ 8) (di : DI m0) (h3 : ∃ e : Nat, e < 3 ∧ m0 3 = nI e) (R : RK ff (fun s => m0 (20 + 8 * s + 6)) ns rk) (sl : ∀ s, s < ns → 0 ≤ m0 (20 + 8 * s + 6)) (hw2 : mx_nl w2 = true)
    (fin : ∀ (h' : MXH) (w3 : Value), MK7 h' b (gbl G m0 ns nb) G ns nb ff → FX b (b + 12) h h' → ex_ X (d + 4) 20 36 [.ref b, w1, w2, w3] [] h' Q) :
    ∀ (n c : Nat) (h1 : MXH), c + n = nb → MK7 h1 b (gbl G m0 ns c) G ns nb ff → FX b (b + 12) h h1 → ex_ X (d + 4) 20 17 [.ref b, w1, w2, .int (nI c)] [] h1 Q := by
  intro n
  induction n with
  | zero =>
    intro c h1 hc mk fx
    have e : c = nb := by omega
    subst e
    have mk0 := mk
    obtain ⟨mi, mr, mt, ms, km, q, mx, e7⟩ := mk
    rw [i20_17]
    simp only [i20_0, i20_1, i20_2, i20_3, i20_4, i20_7, i20_8, i20_11, i20_12, i20_15, i20_16, i20_18, i20_19, i20_22, i20_25, i20_26, i20_27, i20_30, i20_33, i20_37, i20_38, i20_41, i20_42, i20_43, i20_46, i20_49, i20_52, i20_e, kof_gk km.o, kof_gv km.o, q.1.2.2.2.2.2, Int32.le_refl, if_true, true_and, and_true, eq_self, true_or, or_true, bi_01, mx_nl_i, mx_nl_r, mx_nl_n, mx_nl_f, mx_nl_d]
    exact fin h1 _ mk0 fx
  | succ n ih =>
    intro c h1 hc mk fx
    have hlt : ¬ ((nI nb : Int32) ≤ nI c) := by rw [nI_leI (by omega) (by omega)]; omega
    have mk0 := mk
    obtain ⟨mi, mr, mt, ms, km, q, mx, e7⟩ := mk
    have dc := di.gbl (G := G) hns c (by omega)
    have c3 : gbl G m0 ns c 3 = m0 3 := gbl_at hns (by omega) (by omega) c (by omega)
    have c6 : ∀ s, s < 6 → gbl G m0 ns c (20 + 8 * s + 6) = m0 (20 + 8 * s + 6) := fun s hs => gbl_at hns (by omega) (by omega) c (by omega)
    rw [i20_17]
    simp only [i20_0, i20_1, i20_2, i20_3, i20_4, i20_7, i20_8, i20_11, i20_12, i20_15, i20_16, i20_18, i20_19, i20_22, i20_25, i20_26, i20_27, i20_30, i20_33, i20_37, i20_38, i20_41, i20_42, i20_43, i20_46, i20_49, i20_52, i20_e, kof_gk km.o, kof_gv km.o, q.1.2.2.2.2.2, hlt, if_false, ob_co km.o, true_and, and_true, eq_self, true_or, or_true, bi_01, mx_nl_i, mx_nl_r, mx_nl_n, mx_nl_f, mx_nl_d]
    refine k_serve (ff := ff) (rk := rk) hb hns hnb (by omega) dc (by rw [c3]; exact h3) ?_ (fun s hs => by rw [c6 s (by omega)]; exact sl s hs) mk0 (fun h2 mk2 fx2 => ?_)
    · refine ⟨R.1, R.2.1, fun p q hp hq => ?_⟩
      have a1 := (R.1 p (by omega)).2
      have a2 := (R.1 q (by omega)).2
      simp only [c6 (rk p) (by omega), c6 (rk q) (by omega)]
      exact R.2.2 p q hp hq
    · simp only [i20_0, i20_1, i20_2, i20_3, i20_4, i20_7, i20_8, i20_11, i20_12, i20_15, i20_16, i20_18, i20_19, i20_22, i20_25, i20_26, i20_27, i20_30, i20_33, i20_37, i20_38, i20_41, i20_42, i20_43, i20_46, i20_49, i20_52, i20_e, hw2, nI_1, Option.toList_some, Option.toList_none, List.nil_append, List.cons_append, true_and, and_true, eq_self, true_or, or_true, bi_01, mx_nl_i, mx_nl_r, mx_nl_n, mx_nl_f, mx_nl_d]
      exact ih (c + 1) h2 (by omega) mk2 (fx.tr fx2)
set_option maxHeartbeats 1000000 in
theorem k_goBy_l {N : Nat} (hb : b ≤ 84) (md : MD m ns nb) (di : DI m) (hN : N < 2 ^ 31) (k' : ∀ h', MK h' b (gon G m ns nb N) G ns nb → FX b (b + 12) h h' → Q none h') :
    ∀ (n k : Nat) (h1 : MXH) (w3 : Value), k + n = N → MK h1 b (gon G m ns nb k) G ns nb → FX b (b + 12) h h1 → ex_ X (d + 5) 20 2 [.ref b, .int (nI N), .int (nI k), w3] [] h1 Q := by
  have hns := md.1
  have hnb := md.2.1
  intro n
  induction n with
  | zero =>
    intro k h1 w3 hk mk fx
    have e : k = N := by omega
    subst e
    rw [i20_2]
    simp only [i20_0, i20_1, i20_3, i20_4, i20_7, i20_8, i20_11, i20_12, i20_15, i20_16, i20_17, i20_18, i20_19, i20_22, i20_25, i20_26, i20_27, i20_30, i20_33, i20_36, i20_37, i20_38, i20_41, i20_42, i20_43, i20_46, i20_49, i20_52, i20_e, Int32.le_refl, if_true, true_and, and_true, eq_self, true_or, or_true, bi_01, mx_nl_i, mx_nl_r, mx_nl_n, mx_nl_f, mx_nl_d]
    exact k' h1 mk fx
  | succ n ih =>
    intro k h1 w3 hk mk fx
    have hc : ¬ ((nI N : Int32) ≤ nI k) := by rw [nI_leI (by omega) (by omega)]; omega
    have ih := ih (k + 1)
    rw [show gon G m ns nb (k + 1) = by_ G (gon G m ns nb k) ns nb from rfl] at ih
    have dk := di.gon (G := G) hns hnb k
    have mdk := md.gon (G := G) k
    generalize gon G m ns nb k = m1 at mk ih dk mdk
    have co1 : co_ h1 b = some 3 := by
      obtain ⟨mi, mr, mt, ms, km, _⟩ := mk
      exact ob_co km.o
    rw [i20_2]
    simp only [i20_0, i20_1, i20_3, i20_4, i20_7, i20_8, i20_11, i20_12, i20_15, i20_16, i20_18, i20_19, i20_22, i20_25, i20_26, i20_27, i20_30, i20_33, i20_36, i20_37, i20_38, i20_41, i20_42, i20_43, i20_46, i20_49, i20_52, i20_e, hc, if_false, co1, true_and, and_true, eq_self, true_or, or_true, bi_01, mx_nl_i, mx_nl_r, mx_nl_n, mx_nl_f, mx_nl_d]
    refine k_askAll hb hns dk mk (fun h2 mk2 fx2 => ?_)
    have co2 : co_ h2 b = some 3 := by
      obtain ⟨mi, mr, mt, ms, km, _⟩ := mk2
      exact ob_co km.o
    simp only [i20_0, i20_1, i20_3, i20_4, i20_7, i20_8, i20_11, i20_12, i20_15, i20_16, i20_18, i20_19, i20_22, i20_25, i20_26, i20_27, i20_30, i20_33, i20_36, i20_37, i20_38, i20_41, i20_42, i20_43, i20_46, i20_49, i20_52, i20_e, co2, Option.toList_some, Option.toList_none, List.nil_append, List.cons_append, true_and, and_true, eq_self, true_or, or_true, bi_01, mx_nl_i, mx_nl_r, mx_nl_n, mx_nl_f, mx_nl_d]
    refine k_rank hb hns mk2 (fun h3 ff rk mk3 R fx3 => ?_)
    simp only [i20_0, i20_1, i20_3, i20_4, i20_7, i20_8, i20_11, i20_12, i20_15, i20_16, i20_18, i20_19, i20_22, i20_25, i20_26, i20_27, i20_30, i20_33, i20_36, i20_37, i20_38, i20_41, i20_42, i20_43, i20_46, i20_49, i20_52, i20_e, Option.toList_some, Option.toList_none, List.nil_append, List.cons_append, true_and, and_true, eq_self, true_or, or_true, bi_01, mx_nl_i, mx_nl_r, mx_nl_n, mx_nl_f, mx_nl_d]
    refine k_day_s (h := h3) (d := d + 1) (m0 := gsl G m1 ns) hb hns hnb (dk.gsl ns hns) ?_ R (fun s hs => gsl_pos ns hns s hs) rfl ?_ nb 0 h3 (by omega) mk3 (FX.rf h3)
    · rw [gsl_at (by omega) ns hns]; exact mdk.2.2.2.2
    · intro h4 w4 mk4 fx4
      obtain ⟨mi, mr, mt, ms, km, q, mx, e7⟩ := mk4
      have fx5 : FX b (b + 12) h4 (h4.set b (.inr (3, kof b (upd mi 0 (gbl G (gsl G m1 ns) ns nb 0 + 1))))) := FX.set (by omega) (by omega) (by omega)
      simp only [i20_0, i20_1, i20_3, i20_4, i20_7, i20_8, i20_11, i20_12, i20_15, i20_16, i20_18, i20_19, i20_22, i20_25, i20_26, i20_27, i20_30, i20_33, i20_36, i20_37, i20_38, i20_41, i20_42, i20_43, i20_46, i20_49, i20_52, i20_e, kof_gk km.o, kof_gv km.o, q.1.1, kof_pk0 km.o, kof_pf0 km.o, nI_1, Option.toList_some, Option.toList_none, List.nil_append, List.cons_append, true_and, and_true, eq_self, true_or, or_true, bi_01, mx_nl_i, mx_nl_r, mx_nl_n, mx_nl_f, mx_nl_d]
      refine ih _ _ (by omega) ⟨_, mr, mt, ms, km.sv, q.u0, ?_⟩ (fx.tr ((fx2.tr fx3).tr (fx4.tr fx5)))
      exact (mx.ev fx5.2.2).cg (fun s hs j hj => by unfold by_; rw [pk_un (by omega)])
theorem k_goBy {N : Nat} (hb : b ≤ 84) (md : MD m ns nb) (di : DI m) (hN : N < 2 ^ 31) (mk : MK h b m G ns nb) (k' : ∀ h', MK h' b (gon G m ns nb N) G ns nb → FX b (b + 12) h h' → Q none h') : ev_ X (d + 5) 20 [.ref b, .int (nI N)] h Q := by
  simp only [i20_0, i20_1, i20_3, i20_4, i20_7, i20_8, i20_11, i20_12, i20_15, i20_16, i20_17, i20_18, i20_19, i20_22, i20_25, i20_26, i20_27, i20_30, i20_33, i20_36, i20_37, i20_38, i20_41, i20_42, i20_43, i20_46, i20_49, i20_52, i20_e, true_and, and_true, eq_self, true_or, or_true, bi_01, mx_nl_i, mx_nl_r, mx_nl_n, mx_nl_f, mx_nl_d]
  exact k_goBy_l (h := h) hb md di hN k' N 0 h _ (by omega) mk (FX.rf h)
end KG
