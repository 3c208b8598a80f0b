section KP1
variable {X : MXX} {d : Nat} {h : MXH} {Q : MXP} {v : Nat → Int32} {A : Nat → Nat → Int32}
/-- the first place at which two rows aren't alike -/
theorem k_unl_l {f g : Nat → Int32} {w2 : Value} {t ns both : Nat} {sz : Int32} {a0 b0 n1 : Nat} (w : h[a0]? = some (.inr (5, wof b0 sz))) (g1 : h[b0]? = some (.inl (0, n1, .inl f))) {c0 n2 : Nat} (g2 : h[c0]? = some (.inl (0, n2, .inl g))) (hb1 : both ≤ n1) (hb2 : both ≤ n2) (hn1 : n1 < 2 ^ 30) (hn2 : n2 < 2 ^ 30) :
    ∀ n k, k + n = both → ex_ X d 38 17 [.ref a0, .ref c0, w2, .int (nI both), .int (nI k)] [] h Q = if ld_ f g n k < both then Q (some (.int (nI (ld_ f g n k)))) h else ex_ X d 38 46 [.ref a0, .ref c0, w2, .int (nI both), .int (nI both)] [] h Q := by
  intro n
  induction n with
  | zero =>
    intro k hk
    have e : k = both := by omega
    subst e
    rw [i38_17]
    simp only [i38_0, i38_1, i38_4, i38_5, i38_6, i38_7, i38_10, i38_13, i38_14, i38_15, i38_19, i38_20, i38_23, i38_24, i38_27, i38_29, i38_30, i38_31, i38_33, i38_34, i38_37, i38_39, i38_40, i38_43, i38_47, i38_50, i38_51, i38_54, i38_55, i38_58, i38_59, i38_e, Int32.le_refl, if_true, ld_, Nat.lt_irrefl, if_false, true_and, and_true, eq_self, true_or, or_true, bi_01, mx_nl_i, mx_nl_r, mx_nl_n, mx_nl_f, mx_nl_d]
  | succ n ih =>
    intro k hk
    have hc : ¬ ((nI both : Int32) ≤ nI k) := by rw [nI_leI (by omega) (by omega)]; omega
    rw [show ld_ f g (n + 1) k = if f k = g k then ld_ f g n (k + 1) else k from rfl]
    rw [i38_17]
    by_cases c1 : f k = g k
    · rw [if_pos c1, ← ih (k + 1) (by omega)]
      simp only [i38_0, i38_1, i38_4, i38_5, i38_6, i38_7, i38_10, i38_13, i38_14, i38_15, i38_19, i38_20, i38_23, i38_24, i38_27, i38_29, i38_30, i38_31, i38_33, i38_34, i38_37, i38_39, i38_40, i38_43, i38_47, i38_50, i38_51, i38_54, i38_55, i38_58, i38_59, i38_e, hc, if_false, wof_gk w, wof_gv w, ar_ik g1, ar_ia g1, ar_ik g2, ar_ia g2, mx_inN (show k < n1 by omega) (show n1 < 2 ^ 31 by omega), mx_inN (show k < n2 by omega) (show n2 < 2 ^ 31 by omega), nI_clamp (show k < 2 ^ 31 by omega), c1, if_true, nI_1, true_and, and_true, eq_self, true_or, or_true, bi_01, mx_nl_i, mx_nl_r, mx_nl_n, mx_nl_f, mx_nl_d]
    · rw [if_neg c1, if_pos (by omega)]
      simp only [i38_0, i38_1, i38_4, i38_5, i38_6, i38_7, i38_10, i38_13, i38_14, i38_15, i38_19, i38_20, i38_23, i38_24, i38_27, i38_29, i38_30, i38_31, i38_33, i38_34, i38_37, i38_39, i38_40, i38_43, i38_47, i38_50, i38_51, i38_54, i38_55, i38_58, i38_59, i38_e, hc, if_false, wof_gk w, wof_gv w, ar_ik g1, ar_ia g1, ar_ik g2, ar_ia g2, mx_inN (show k < n1 by omega) (show n1 < 2 ^ 31 by omega), mx_inN (show k < n2 by omega) (show n2 < 2 ^ 31 by omega), nI_clamp (show k < 2 ^ 31 by omega), c1, true_and, and_true, eq_self, true_or, or_true, bi_01, mx_nl_i, mx_nl_r, mx_nl_n, mx_nl_f, mx_nl_d]
theorem ld_le {f g : Nat → Int32} : ∀ n k, k ≤ ld_ f g n k ∧ ld_ f g n k ≤ k + n
  | 0, k => ⟨Nat.le_refl k, Nat.le_refl k⟩
  | n + 1, k => by
    rw [show ld_ f g (n + 1) k = if f k = g k then ld_ f g n (k + 1) else k from rfl]
    split
    · have := ld_le (f := f) (g := g) n (k + 1); omega
    · omega
theorem k_unl {f g : Nat → Int32} {t ns a0 c0 : Nat} (ht : t ≤ 20) (hns : ns ≤ 6) (w : h[a0]? = some (.inr (5, wof (a0 + 1) (nI t)))) (g1 : h[a0 + 1]? = some (.inl (0, 20, .inl f))) (g2 : h[c0]? = some (.inl (0, 6, .inl g))) :
    ev_ X (d + 1) 38 [.ref a0, .ref c0, .int (nI ns)] h Q = Q (some (.int (if ld_ f g (min t ns) 0 < min t ns then nI (ld_ f g (min t ns) 0) else if t = ns then -1 else nI (min t ns)))) h := by
  have m1 : (if (6 : Int32) < nI ns then 6 else nI ns) = nI ns := if_neg (fun z => by
    have : ¬ (nI 6 < nI ns) := by rw [nI_ltI (by decide) (by omega)]; omega
    exact this z)
  have m2 : (if (nI ns : Int32) < nI t then nI ns else nI t) = nI (min t ns) := by
    by_cases c : ns < t
    · rw [if_pos ((nI_ltI (by omega) (by omega)).mpr c), Nat.min_eq_right (by omega)]
    · rw [if_neg (fun z => c ((nI_ltI (by omega) (by omega)).mp z)), Nat.min_eq_left (by omega)]
  have key := k_unl_l (X := X) (d := d + 1) (Q := Q) (w2 := .int (nI ns)) (t := t) (ns := ns) (both := min t ns) w g1 g2 (by omega) (by omega) (by omega) (by omega) (min t ns) 0 (by omega)
  simp only [i38_0, i38_1, i38_4, i38_5, i38_7, i38_10, i38_13, i38_14, i38_15, i38_19, i38_20, i38_23, i38_24, i38_27, i38_29, i38_30, i38_31, i38_33, i38_34, i38_37, i38_39, i38_40, i38_43, i38_46, i38_47, i38_50, i38_51, i38_54, i38_55, i38_58, i38_59, i38_e, i38_6 (ar_al g2), show Int32.ofNat 6 = 6 from rfl, wof_gk w, wof_gv w, m1, m2, true_and, and_true, eq_self, true_or, or_true, bi_01, mx_nl_i, mx_nl_r, mx_nl_n, mx_nl_f, mx_nl_d]
  rw [show (0 : Int32) = nI 0 from rfl, key]
  by_cases c1 : ld_ f g (min t ns) 0 < min t ns
  · rw [if_pos c1, if_pos c1]
  · rw [if_neg c1, if_neg c1]
    by_cases c2 : t = ns
    · subst c2
      simp only [i38_0, i38_1, i38_4, i38_5, i38_7, i38_10, i38_13, i38_14, i38_15, i38_19, i38_20, i38_23, i38_24, i38_27, i38_29, i38_30, i38_31, i38_33, i38_34, i38_37, i38_39, i38_40, i38_43, i38_46, i38_47, i38_50, i38_51, i38_54, i38_55, i38_58, i38_59, i38_e, wof_gk w, wof_gv w, not_true_eq_false, if_false, if_true, true_and, and_true, eq_self, true_or, or_true, bi_01, mx_nl_i, mx_nl_r, mx_nl_n, mx_nl_f, mx_nl_d]
    · have c3 : ¬ (nI t : Int32) = nI ns := fun z => c2 ((nI_eq (by omega) (by omega)).mp z)
      simp only [i38_0, i38_1, i38_4, i38_5, i38_7, i38_10, i38_13, i38_14, i38_15, i38_19, i38_20, i38_23, i38_24, i38_27, i38_29, i38_30, i38_31, i38_33, i38_34, i38_37, i38_39, i38_40, i38_43, i38_46, i38_47, i38_50, i38_51, i38_54, i38_55, i38_58, i38_59, i38_e, wof_gk w, wof_gv w, c2, c3, not_false_eq_true, if_true, if_false, true_and, and_true, eq_self, true_or, or_true, bi_01, mx_nl_i, mx_nl_r, mx_nl_n, mx_nl_f, mx_nl_d]
theorem w0A_sg : SG (A 0) (w0A A 0) := by
  unfold w0A
  rw [up2_s]
  exact ⟨fun j h1 h2 h3 h4 => pk_un h4, fun j h1 h2 => pk_un (by omega)⟩
/-- none waits -/
theorem CW.cl (c : CW h v A) (ok : OK v A) : CW (h.set 15 (.inr (5, wof (15 + 1) 0))) v (w0A A) := by
  have fx : FX 15 17 h (h.set 15 (.inr (5, wof (15 + 1) 0))) := FX.set (by omega) (by omega) (by omega)
  have c2 := c.2.2.1
  obtain ⟨w, g, r, e⟩ := c.2.2.2.1
  refine c.nm (m' := upd (A 0) 10 0) ok fx (by omega) ⟨fun j h1 h2 h3 h4 => pk_un h4, fun j h1 h2 => pk_un (by omega)⟩ ?_ ?_ ?_
  · rw [pk_un (by decide)]; exact c.1.fx fx (by omega)
  · exact (c2.fx fx (by omega)).cg (pk_un (by decide)) (fun j => pk_un (by omega))
  · refine ⟨by rw [pk_us]; exact mx_gss (by rw [w]; rfl), g, by rw [List.getElem?_set_ne (by omega)]; exact r, fun j hj => ?_⟩
    rw [pk_us] at hj
    exact absurd hj (by simp [show (0 : Int32).toNatClampNeg = 0 from by decide])
theorem q_check (c : CW h v A) (ok : OK v A) {n : Int32} (k : KC h (sp_check v A n) Q) : ev_ X (d + 9) 103 [.ref 0, .int n] h Q := by
  have cw := c
  obtain ⟨⟨ci, o, z3, z8, z7⟩, c1, c2, c3, c4, c5, c6, ⟨ef, g36, e36⟩, c8⟩ := c
  have md := MD.ab ok.1.1
  have di : DI (A 0) := ⟨ok.1.2.2.2.2.2.2.1, ok.1.2.2.2.2.2.2.2.1⟩
  obtain ⟨mi, mr, mt, ms, r, q, mx⟩ := c1
  replace q : MR (A 0) mi mr (nsA A) (nbA A) := q
  replace mx : MX h (A 0) (G_ (A 0)) mt ms (nsA A) := mx
  have mk : MK h 1 (A 0) (G_ (A 0)) (nsA A) (nbA A) := ⟨mi, mr, mt, ms, r, q, mx⟩
  obtain ⟨hns, hnb, e1, e2, e3⟩ := id md
  have q7 : mi 7 = A 0 1 := by rw [e1]; exact q.1.2.2.2.2.1
  have q12 : mi 12 = A 0 2 := by rw [e2]; exact q.1.2.2.2.2.2
  unfold sp_check at k
  obtain ⟨t, ht, et⟩ := ok.1.2.2.2.2.2.1
  have c30 := c3
  obtain ⟨w5, g5, r5, e5⟩ := c3
  by_cases c0 : (0 ≤ n ∧ n ≤ 60)
  case neg =>
    rw [if_neg c0] at k
    have fx : FX 15 17 h (h.set 15 (.inr (5, wof (15 + 1) 0))) := FX.set (by omega) (by omega) (by omega)
    have o1 : (h.set 15 (.inr (5, wof (15 + 1) 0)))[0]? = some (.inr (11, cof ci)) := by rw [List.getElem?_set_ne (by omega)]; exact o
    have g1 : (h.set 15 (.inr (5, wof (15 + 1) 0)))[36]? = some (.inl (0, 6, .inl ef)) := by rw [List.getElem?_set_ne (by omega)]; exact g36
    simp only [i103_0, i103_1, i103_4, i103_7, i103_8, i103_11, i103_14, i103_15, i103_16, i103_19, i103_20, i103_21, i103_22, i103_25, i103_26, i103_27, i103_30, i103_31, i103_34, i103_35, i103_38, i103_41, i103_42, i103_43, i103_46, i103_49, i103_50, i103_51, i103_52, i103_e, cof_gk o, cof_gv o, ob_co o, k_in, k_isSheet, k_isUse, k_isAhead, bi_eq0, decide_true, decide_false, and_self, if_true, if_false, reduceCtorEq, not_true_eq_false, not_false_eq_true, mx_t0, Option.toList_some, Option.toList_none, List.nil_append, List.cons_append, true_and, and_true, eq_self, true_or, or_true, bi_01, mx_nl_i, mx_nl_r, mx_nl_n, mx_nl_f, mx_nl_d, kof_gk r.o, kof_gv r.o, ob_co r.o, k_isSeller o r q7, k_isSort o r q12, c0, ob_co w5, k_clear w5, cof_gk o1, cof_gv o1, ob_co o1, k_e1 o1 g1]
    refine KC.er (h := h.set 15 (.inr (5, wof (15 + 1) 0))) (v := v) (A := w0A A) (fun h' cw' f' => k h' cw' ?_) (cw.cl ok) (by decide) (by decide) g1
    have a1 := fx.ft (by omega)
    exact ⟨Nat.le_trans a1.1 f'.1, by have z := f'.2.1; rw [fx.1] at z; exact z, fun j h1 h2 => (f'.2.2 j h1 h2).trans (a1.2.2 j h1 h2)⟩
  rw [if_pos c0] at k
  simp only [i103_0, i103_1, i103_4, i103_7, i103_8, i103_11, i103_14, i103_15, i103_16, i103_19, i103_20, i103_21, i103_22, i103_25, i103_26, i103_27, i103_30, i103_31, i103_34, i103_35, i103_38, i103_41, i103_42, i103_43, i103_46, i103_49, i103_50, i103_51, i103_52, i103_e, cof_gk o, cof_gv o, ob_co o, k_in, k_isSheet, k_isUse, k_isAhead, bi_eq0, decide_true, decide_false, and_self, if_true, if_false, reduceCtorEq, not_true_eq_false, not_false_eq_true, mx_t0, Option.toList_some, Option.toList_none, List.nil_append, List.cons_append, true_and, and_true, eq_self, true_or, or_true, bi_01, mx_nl_i, mx_nl_r, mx_nl_n, mx_nl_f, mx_nl_d, kof_gk r.o, kof_gv r.o, ob_co r.o, k_isSeller o r q7, k_isSort o r q12, c0]
  obtain ⟨N, hN, rfl⟩ := nI_rng (k := 60) (by decide) c0
  rw [nI_clamp (show N < 2 ^ 31 by omega), et, nI_clamp (show t < 2 ^ 31 by omega)] at k
  have hw1 : w0A A 0 1 = A 0 1 := by unfold w0A; rw [up2_s, pk_un (by decide)]
  have hw2 : w0A A 0 2 = A 0 2 := by unfold w0A; rw [up2_s, pk_un (by decide)]
  have hnsw : nsA (w0A A) = nsA A := by unfold nsA; rw [hw1]
  have hnbw : nbA (w0A A) = nbA A := by unfold nbA; rw [hw2]
  have mkw : MK h 1 (w0A A 0) (G_ (w0A A 0)) (nsA (w0A A)) (nbA (w0A A)) := by
    rw [hnsw, hnbw]
    exact mk.sg hns hnb ok.1.2.1 ok.1.2.2.1 w0A_sg
  have mdw : MD (w0A A 0) (nsA (w0A A)) (nbA (w0A A)) := by
    rw [hnsw, hnbw]
    unfold w0A
    rw [up2_s]
    exact md.up (by omega)
  have diw : DI (w0A A 0) := by
    unfold w0A
    rw [up2_s]
    exact di.up (by omega)
  refine k_ahead (A := w0A A) o mkw c8.1 mdw diw (by omega) (fun h1 mk1 f1 => ?_)
  have o1 : h1[0]? = some (.inr (11, cof ci)) := by rw [f1.2.1 0 (by omega) (by omega)]; exact o
  have w51 : h1[15]? = some (.inr (5, wof (15 + 1) (nI t))) := by rw [f1.2.1 15 (by omega) (by omega), ← et]; exact w5
  have r51 : h1[15 + 1]? = some (.inl (0, 20, .inl g5)) := by rw [f1.2.1 (15 + 1) (by omega) (by omega)]; exact r5
  have cw1 := cw.sc f1 mk1.ss
  rw [hnsw, hnbw] at mk1
  obtain ⟨mi1, mr1, mt1, ms1, r1, q1, mx1⟩ := mk1
  have o2 : (h1.set 15 (.inr (5, wof (15 + 1) 0)))[0]? = some (.inr (11, cof ci)) := by rw [List.getElem?_set_ne (by omega)]; exact o1
  have f2 : FX 15 17 h1 (h1.set 15 (.inr (5, wof (15 + 1) 0))) := FX.set (by omega) (by omega) (by omega)
  simp only [i103_0, i103_1, i103_4, i103_7, i103_8, i103_11, i103_14, i103_15, i103_16, i103_19, i103_20, i103_21, i103_22, i103_25, i103_26, i103_27, i103_30, i103_31, i103_34, i103_35, i103_38, i103_41, i103_42, i103_43, i103_46, i103_49, i103_50, i103_51, i103_52, i103_e, cof_gk o1, cof_gv o1, kof_gk r1.o, kof_gv r1.o, q1.1.2.2.2.2.1, ob_co w51, k_unl ht hns w51 r51 r1.g6, k_clear w51, Option.toList_some, Option.toList_none, List.nil_append, List.cons_append, true_and, and_true, eq_self, true_or, or_true, bi_01, mx_nl_i, mx_nl_r, mx_nl_n, mx_nl_f, mx_nl_d]
  have el : ld_ (fun x => A 0 (106 + x)) (fun x => fw_ (w0A A) (w0A A 0) N (20 + 8 * x + 6)) (min t (nsA A)) 0 = ld_ g5 (mr1 6) (min t (nsA A)) 0 := by
    refine ld_cg (min t (nsA A)) 0 (fun x hx => ⟨?_, ?_⟩)
    · exact (e5 x (by rw [et, nI_clamp (by omega)]; omega)).symm
    · exact ((q1.2.2.1 x (by omega)).2.2).symm
  rw [el, e1] at k
  have hle := ld_le (f := g5) (g := mr1 6) (min t (nsA A)) 0
  generalize ld_ g5 (mr1 6) (min t (nsA A)) 0 = u at k hle ⊢
  have fin : ∀ x : Int32, x = (if nI u = nI t ∧ nI u = nI (nsA A) then (0 : Int32) else 1 + nI u) → Q (some (.int x)) (h1.set 15 (.inr (5, wof (15 + 1) 0))) := by
    intro x hx
    rw [hx]
    exact k _ (cw1.cl ok) (FT.tr0 f1 f2 (by omega) (by omega))
  apply fin
  by_cases c9 : u < min t (nsA A)
  · rw [if_pos c9, if_neg]
    intro z
    have z1 := (nI_eq (by omega) (by omega)).mp z.1
    omega
  · rw [if_neg c9]
    have eu : u = min t (nsA A) := by omega
    by_cases c10 : t = nsA A
    · rw [if_pos c10, if_pos ⟨by rw [eu, c10, Nat.min_self], by rw [eu, c10, Nat.min_self]⟩]
      rfl
    · rw [if_neg c10, if_neg, eu]
      intro z
      have z1 := (nI_eq (by omega) (by omega)).mp z.1
      have z2 := (nI_eq (by omega) (by omega)).mp z.2
      omega
theorem fd_sg {w : Int64} {m : Nat → Int32} {tp : Nat} : ∀ k, SG m (fd_ w m tp k) ∧ (∀ j, j ≠ 9 → ¬ (226 ≤ j) → fd_ w m tp k j = m j)
  | 0 => ⟨⟨fun _ _ _ _ _ => rfl, fun _ _ _ => rfl⟩, fun _ _ _ => rfl⟩
  | k + 1 => by
    have ih := (fd_sg (w := w) (m := m) (tp := tp) k).2
    have a : ∀ j, j ≠ 9 → ¬ (226 ≤ j) → fd_ w m tp (k + 1) j = m j := fun j h1 h2 => by
      unfold fd_
      rw [pk_un h1, pk_un (by omega)]
      exact ih j h1 h2
    exact ⟨⟨fun j h1 h2 h3 h4 => a j h3 (by omega), fun j h1 h2 => a j (by omega) (by omega)⟩, a⟩
theorem C3.cg2 {h : MXH} {m m' : Nat → Int32} (c : C3 h m) (hn : NI (m 10) 20) (e : m' 10 = m 10) (e2 : ∀ j, j < 20 → m' (106 + j) = m (106 + j)) : C3 h m' := by
  obtain ⟨a1, a2, a3, a4⟩ := c
  obtain ⟨n, hn, en⟩ := hn
  refine ⟨by rw [e]; exact a1, a2, a3, fun j hj => ?_⟩
  rw [e] at hj
  have hj2 := hj
  rw [en, nI_clamp (by omega)] at hj2
  show a2 j = m' (106 + j)
  rw [e2 j (by omega)]
  exact a4 j hj
set_option maxHeartbeats 1000000 in
theorem k_feed_l (c : CW h v A) (ok : OK v A) {w : Int64} {w2 : Value} {tp N : Nat} (e9 : A 0 9 = nI tp) (hN : tp + N ≤ 50) (hN8 : N ≤ 8) (k : KC h (nI (tp + N), v, up2 A 0 (fd_ w (A 0) tp N)) Q) :
    ∀ (n j : Nat) (h1 : MXH), j + n = N → RO h1 13 50 (nI (tp + j)) (fun x => fd_ w (A 0) tp j (226 + x)) → FX 13 15 h h1 → ex_ X (d + 9) 79 39 [.ref 0, .long w, w2, .int (nI N), .int (nI j)] [] h1 Q := by
  obtain ⟨⟨ci, o, z3, z8, z7⟩, c1, c2, c3, c4, c5, c6, c7, c8⟩ := id c
  intro n
  induction n with
  | zero =>
    intro j h1 hj ro fx
    have e : j = N := by omega
    subst e
    have ro0 := ro
    obtain ⟨w5, g5, r5, e5⟩ := ro
    have o1 : h1[0]? = some (.inr (11, cof ci)) := by rw [fx.2.1 0 (by omega) (by omega)]; exact o
    rw [i79_39]
    simp only [i79_0, i79_1, i79_2, i79_4, i79_7, i79_10, i79_11, i79_12, i79_15, i79_16, i79_17, i79_20, i79_23, i79_24, i79_25, i79_27, i79_30, i79_31, i79_32, i79_35, i79_36, i79_37, i79_41, i79_42, i79_45, i79_46, i79_49, i79_50, i79_52, i79_54, i79_55, i79_56, i79_57, i79_60, i79_61, i79_64, i79_65, i79_68, i79_71, i79_72, i79_75, i79_78, i79_e, Int32.le_refl, if_true, cof_gk o1, cof_gv o1, wof_gk w5, wof_gv w5, true_and, and_true, eq_self, true_or, or_true, bi_01, mx_nl_i, mx_nl_r, mx_nl_n, mx_nl_f, mx_nl_d]
    have sg := fd_sg (w := w) (m := A 0) (tp := tp) j
    refine k h1 (c.nm ok fx (by omega) sg.1 ?_ ?_ ?_) (fx.ft (by omega))
    · rw [sg.2 8 (by decide) (by decide)]; exact c.1.fx fx (by omega)
    · unfold C2; rw [fd_9 e9]; exact ro0
    · exact (c3.fx fx (by omega)).cg2 ok.1.2.2.2.2.2.1 (sg.2 10 (by decide) (by decide)) (fun x hx => sg.2 _ (by omega) (by omega))
  | succ n ih =>
    intro j h1 hj ro fx
    have hc : ¬ ((nI N : Int32) ≤ nI j) := by rw [nI_leI (by omega) (by omega)]; omega
    obtain ⟨w5, g5, r5, e5⟩ := ro
    rw [nI_clamp (show tp + j < 2 ^ 31 by omega)] at e5
    have o1 : h1[0]? = some (.inr (11, cof ci)) := by rw [fx.2.1 0 (by omega) (by omega)]; exact o
    have f2 : FX 13 15 h1 ((h1.set (13 + 1) (.inl (0, 50, .inl (upd g5 (tp + j) (byt w j))))).set 13 (.inr (5, wof (13 + 1) (nI (tp + j + 1))))) := (FX.set (by omega) (by omega) (by omega)).tr (FX.set (by omega) (by omega) (by omega))
    rw [i79_39]
    simp only [i79_0, i79_1, i79_2, i79_4, i79_7, i79_10, i79_11, i79_12, i79_15, i79_16, i79_17, i79_20, i79_23, i79_24, i79_25, i79_27, i79_30, i79_31, i79_32, i79_35, i79_36, i79_37, i79_41, i79_42, i79_45, i79_46, i79_49, i79_50, i79_52, i79_54, i79_55, i79_56, i79_57, i79_60, i79_61, i79_64, i79_65, i79_68, i79_71, i79_72, i79_75, i79_78, i79_e, hc, if_false, cof_gk o1, cof_gv o1, ob_co w5, byt_eq w (show j < 8 by omega), k_add w5 r5 (show tp + j < 50 by omega) (by decide), nI_1, Option.toList_some, Option.toList_none, List.nil_append, List.cons_append, true_and, and_true, eq_self, true_or, or_true, bi_01, mx_nl_i, mx_nl_r, mx_nl_n, mx_nl_f, mx_nl_d]
    refine ih (j + 1) _ (by omega) ⟨mx_gss (by rw [List.getElem?_set_ne (by omega), w5]; rfl), upd g5 (tp + j) (byt w j), by rw [List.getElem?_set_ne (by omega)]; exact mx_gss (by rw [r5]; rfl), fun x hx => ?_⟩ (fx.tr f2)
    rw [show tp + (j + 1) = tp + j + 1 from rfl, nI_clamp (by omega)] at hx
    show upd g5 (tp + j) (byt w j) x = upd (upd (fd_ w (A 0) tp j) (226 + (tp + j)) (byt w j)) 9 (nI (tp + j + 1)) (226 + x)
    rw [pk_un (show 226 + x ≠ 9 by omega)]
    by_cases e : x = tp + j
    · subst e; rw [pk_us, pk_us]
    · rw [pk_un e, pk_un (by omega)]; exact e5 x (by omega)
theorem q_feed (c : CW h v A) (ok : OK v A) {w : Int64} {n : Int32} (k : KC h (sp_feed v A w n) Q) : ev_ X (d + 9) 79 [.ref 0, .long w, .int n] h Q := by
  have cw := c
  obtain ⟨⟨ci, o, z3, z8, z7⟩, c1, c2, c3, c4, c5, c6, ⟨ef, g36, e36⟩, c8⟩ := c
  have md := MD.ab ok.1.1
  have di : DI (A 0) := ⟨ok.1.2.2.2.2.2.2.1, ok.1.2.2.2.2.2.2.2.1⟩
  obtain ⟨mi, mr, mt, ms, r, q, mx⟩ := c1
  replace q : MR (A 0) mi mr (nsA A) (nbA A) := q
  replace mx : MX h (A 0) (G_ (A 0)) mt ms (nsA A) := mx
  have mk : MK h 1 (A 0) (G_ (A 0)) (nsA A) (nbA A) := ⟨mi, mr, mt, ms, r, q, mx⟩
  obtain ⟨hns, hnb, e1, e2, e3⟩ := id md
  have q7 : mi 7 = A 0 1 := by rw [e1]; exact q.1.2.2.2.2.1
  have q12 : mi 12 = A 0 2 := by rw [e2]; exact q.1.2.2.2.2.2
  unfold sp_feed at k
  have c20 := c2
  obtain ⟨w5, g5, r5, e5⟩ := c2
  obtain ⟨t, ht, et⟩ := ok.1.2.2.2.2.1
  by_cases c1 : 1 ≤ n ∧ n ≤ 8
  case neg =>
    rw [if_neg c1] at k
    simp only [i79_0, i79_1, i79_2, i79_4, i79_7, i79_10, i79_11, i79_12, i79_15, i79_16, i79_17, i79_20, i79_23, i79_24, i79_25, i79_27, i79_30, i79_31, i79_32, i79_35, i79_36, i79_37, i79_41, i79_42, i79_45, i79_46, i79_49, i79_50, i79_52, i79_54, i79_55, i79_56, i79_57, i79_60, i79_61, i79_64, i79_65, i79_68, i79_71, i79_72, i79_75, i79_78, i79_e, cof_gk o, cof_gv o, ob_co o, k_in, k_isSheet, k_isUse, k_isAhead, bi_eq0, decide_true, decide_false, and_self, if_true, if_false, reduceCtorEq, not_true_eq_false, not_false_eq_true, mx_t0, Option.toList_some, Option.toList_none, List.nil_append, List.cons_append, true_and, and_true, eq_self, true_or, or_true, bi_01, mx_nl_i, mx_nl_r, mx_nl_n, mx_nl_f, mx_nl_d, k_e1 o g36, k_e2 o g36, k_e3 o g36, k_e4 o g36, k_e5 o g36, c1]
    exact k.er cw (by decide) (by decide) g36
  rw [if_pos c1] at k
  by_cases c9 : A 0 9 + n ≤ 50
  case neg =>
    rw [if_neg c9] at k
    simp only [i79_0, i79_1, i79_2, i79_4, i79_7, i79_10, i79_11, i79_12, i79_15, i79_16, i79_17, i79_20, i79_23, i79_24, i79_25, i79_27, i79_30, i79_31, i79_32, i79_35, i79_36, i79_37, i79_41, i79_42, i79_45, i79_46, i79_49, i79_50, i79_52, i79_54, i79_55, i79_56, i79_57, i79_60, i79_61, i79_64, i79_65, i79_68, i79_71, i79_72, i79_75, i79_78, i79_e, cof_gk o, cof_gv o, ob_co o, k_in, k_isSheet, k_isUse, k_isAhead, bi_eq0, decide_true, decide_false, and_self, if_true, if_false, reduceCtorEq, not_true_eq_false, not_false_eq_true, mx_t0, Option.toList_some, Option.toList_none, List.nil_append, List.cons_append, true_and, and_true, eq_self, true_or, or_true, bi_01, mx_nl_i, mx_nl_r, mx_nl_n, mx_nl_f, mx_nl_d, k_e1 o g36, k_e2 o g36, k_e3 o g36, k_e4 o g36, k_e5 o g36, c1, wof_gk w5, wof_gv w5, c9]
    exact k.er cw (by decide) (by decide) g36
  rw [if_pos c9] at k
  obtain ⟨N, hN, rfl⟩ := nI_rng (k := 8) (by decide) ⟨Int32.le_trans (by decide) c1.1, c1.2⟩
  have hs : t + N ≤ 50 := by
    rw [et, nI_add] at c9
    exact (nI_leI (b := 50) (by omega) (by decide)).mp c9
  simp only [i79_0, i79_1, i79_2, i79_4, i79_7, i79_10, i79_11, i79_12, i79_15, i79_16, i79_17, i79_20, i79_23, i79_24, i79_25, i79_27, i79_30, i79_31, i79_32, i79_35, i79_36, i79_37, i79_41, i79_42, i79_45, i79_46, i79_49, i79_50, i79_52, i79_54, i79_55, i79_56, i79_57, i79_60, i79_61, i79_64, i79_65, i79_68, i79_71, i79_72, i79_75, i79_78, i79_e, cof_gk o, cof_gv o, ob_co o, k_in, k_isSheet, k_isUse, k_isAhead, bi_eq0, decide_true, decide_false, and_self, if_true, if_false, reduceCtorEq, not_true_eq_false, not_false_eq_true, mx_t0, Option.toList_some, Option.toList_none, List.nil_append, List.cons_append, true_and, and_true, eq_self, true_or, or_true, bi_01, mx_nl_i, mx_nl_r, mx_nl_n, mx_nl_f, mx_nl_d, c1, wof_gk w5, wof_gv w5, c9]
  rw [et, nI_add, nI_clamp (show t < 2 ^ 31 by omega), nI_clamp (show N < 2 ^ 31 by omega)] at k
  refine k_feed_l cw ok et hs hN k N 0 h (by omega) ?_ (FX.rf h)
  unfold C2 at c20
  rw [et] at c20
  exact c20
end KP1
