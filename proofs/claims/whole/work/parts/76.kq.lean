/-! the component's calls: sheets -/
section KQ1
variable {X : MXX} {d : Nat} {h h' : MXH} {Q : MXP} {v : Nat → Int32} {A A' : Nat → Nat → Int32}
/-- a sheet alone has changed -/
theorem CW.sh {i : Nat} (c : CW h v A) (hi : i < 4) (f : FX (52 + 2 * i) (54 + 2 * i) h h') (s : SHT h' i (A' 10 i) (A' 11 i) (fun j => A' 12 (40 * i + j))) (e10 : ∀ j, j < 4 → j ≠ i → A' 10 j = A 10 j) (e11 : ∀ j, j < 4 → j ≠ i → A' 11 j = A 11 j) (e12 : ∀ j, j < 4 → j ≠ i → ∀ x, x < 40 → A' 12 (40 * j + x) = A 12 (40 * j + x)) (e0 : A' 0 = A 0) (e2 : A' 2 = A 2) (e3 : A' 3 = A 3) (e9 : A' 9 = A 9) : CW h' v A' := by
  obtain ⟨c0, c1, c2, c3, c4, c5, ⟨⟨sf, g35, e35⟩, c6⟩, c7, c8⟩ := c
  refine ⟨by rw [e0, e2]; exact c0.fx f (by omega), by rw [e0]; exact c1.fx f (by omega), by rw [e0]; exact c2.fx f (by omega), by rw [e0]; exact c3.fx f (by omega), by rw [e2]; exact c4.fx f (by omega), by rw [e9]; exact c5.fx f (by omega), ⟨⟨sf, by rw [f.2.1 35 (by omega) (by omega)]; exact g35, e35⟩, fun j hj => ?_⟩, by rw [e3]; exact c7.fx f (by omega), c8.fx f (by omega)⟩
  by_cases e : j = i
  · subst e; exact s
  · obtain ⟨a, g, b, eg⟩ := (c6 j hj).fx hj f (by omega)
    refine ⟨by rw [e10 j hj e, e11 j hj e]; exact a, g, b, fun x hx => ?_⟩
    show g x = A' 12 (40 * j + x)
    rw [e12 j hj e x hx]
    exact eg x hx
theorem k_missing {a b : Nat} {y s : Int32} (w : h[a]? = some (.inr (7, hof b y s))) : ev_ X d 48 [.ref a] h Q = Q (some (.int (bi_ (decide (y = 0))))) h := by
  by_cases c : y = 0
  · simp only [i48_0, i48_1, i48_4, i48_7, i48_8, i48_11, i48_e, i48_12 mx_01a, i48_12 mx_01b, hof_gk w, hof_gv w, c, not_true_eq_false, if_false, decide_true, true_and, and_true, eq_self, true_or, or_true, bi_01, mx_nl_i, mx_nl_r, mx_nl_n, mx_nl_f, mx_nl_d]; rfl
  · simp only [i48_0, i48_1, i48_4, i48_7, i48_8, i48_11, i48_e, i48_12 mx_01a, i48_12 mx_01b, hof_gk w, hof_gv w, c, not_false_eq_true, if_true, decide_false, true_and, and_true, eq_self, true_or, or_true, bi_01, mx_nl_i, mx_nl_r, mx_nl_n, mx_nl_f, mx_nl_d]; rfl
theorem k_holds {a b : Nat} {y s i n : Int32} (w : h[a]? = some (.inr (7, hof b y s))) : ev_ X d 51 [.ref a, .int i, .int n] h Q = Q (some (.int (bi_ (decide (¬ i < 0 ∧ ¬ n < 0 ∧ ¬ s < n ∧ ¬ s - n < i))))) h := by
  by_cases c1 : i < 0
  · simp only [i51_0, i51_1, i51_4, i51_5, i51_8, i51_9, i51_10, i51_13, i51_16, i51_17, i51_18, i51_21, i51_22, i51_23, i51_26, i51_27, i51_30, i51_e, i51_31 mx_01a, i51_31 mx_01b, hof_gk w, hof_gv w, c1, not_true_eq_false, false_and, if_true, decide_false, true_and, and_true, eq_self, true_or, or_true, bi_01, mx_nl_i, mx_nl_r, mx_nl_n, mx_nl_f, mx_nl_d]; rfl
  · by_cases c2 : n < 0
    · simp only [i51_0, i51_1, i51_4, i51_5, i51_8, i51_9, i51_10, i51_13, i51_16, i51_17, i51_18, i51_21, i51_22, i51_23, i51_26, i51_27, i51_30, i51_e, i51_31 mx_01a, i51_31 mx_01b, hof_gk w, hof_gv w, c1, c2, not_true_eq_false, false_and, and_false, if_true, if_false, decide_false, true_and, and_true, eq_self, true_or, or_true, bi_01, mx_nl_i, mx_nl_r, mx_nl_n, mx_nl_f, mx_nl_d]; rfl
    · by_cases c3 : s < n
      · simp only [i51_0, i51_1, i51_4, i51_5, i51_8, i51_9, i51_10, i51_13, i51_16, i51_17, i51_18, i51_21, i51_22, i51_23, i51_26, i51_27, i51_30, i51_e, i51_31 mx_01a, i51_31 mx_01b, hof_gk w, hof_gv w, c1, c2, c3, not_true_eq_false, false_and, and_false, if_true, if_false, decide_false, true_and, and_true, eq_self, true_or, or_true, bi_01, mx_nl_i, mx_nl_r, mx_nl_n, mx_nl_f, mx_nl_d]; rfl
      · by_cases c4 : s - n < i
        · simp only [i51_0, i51_1, i51_4, i51_5, i51_8, i51_9, i51_10, i51_13, i51_16, i51_17, i51_18, i51_21, i51_22, i51_23, i51_26, i51_27, i51_30, i51_e, i51_31 mx_01a, i51_31 mx_01b, hof_gk w, hof_gv w, c1, c2, c3, c4, not_true_eq_false, and_false, if_true, if_false, decide_false, true_and, and_true, eq_self, true_or, or_true, bi_01, mx_nl_i, mx_nl_r, mx_nl_n, mx_nl_f, mx_nl_d]; rfl
        · simp only [i51_0, i51_1, i51_4, i51_5, i51_8, i51_9, i51_10, i51_13, i51_16, i51_17, i51_18, i51_21, i51_22, i51_23, i51_26, i51_27, i51_30, i51_e, i51_31 mx_01a, i51_31 mx_01b, hof_gk w, hof_gv w, c1, c2, c3, c4, not_false_eq_true, and_self, if_false, decide_true, true_and, and_true, eq_self, true_or, or_true, bi_01, mx_nl_i, mx_nl_r, mx_nl_n, mx_nl_f, mx_nl_d]; rfl
theorem k_write {a b n : Nat} {y s x : Int32} {i : Nat} {f : Nat → Int32} (w : h[a]? = some (.inr (7, hof b y s))) (g : h[b]? = some (.inl (0, n, .inl f))) (hi : i < n) (hn : n < 2 ^ 31) : ev_ X d 50 [.ref a, .int (nI i), .int x] h Q = Q none (h.set b (.inl (0, n, .inl (upd f i (nrw y x))))) := by
  unfold nrw
  by_cases c1 : y = 8
  · simp only [i50_0, i50_1, i50_4, i50_5, i50_6, i50_9, i50_11, i50_14, i50_15, i50_16, i50_19, i50_20, i50_23, i50_25, i50_28, i50_29, i50_30, i50_33, i50_34, i50_35, i50_e, hof_gk w, hof_gv w, c1, not_true_eq_false, if_false, if_true, ar_ik g, ar_is g, mx_inN hi hn, nI_clamp (show i < 2 ^ 31 by omega), true_and, and_true, eq_self, true_or, or_true, bi_01, mx_nl_i, mx_nl_r, mx_nl_n, mx_nl_f, mx_nl_d]
  · by_cases c2 : y = 16
    · simp only [i50_0, i50_1, i50_4, i50_5, i50_6, i50_9, i50_11, i50_14, i50_15, i50_16, i50_19, i50_20, i50_23, i50_25, i50_28, i50_29, i50_30, i50_33, i50_34, i50_35, i50_e, hof_gk w, hof_gv w, c2, show ¬ ((16 : Int32) = 8) from by decide, not_false_eq_true, not_true_eq_false, if_false, if_true, ar_ik g, ar_is g, mx_inN hi hn, nI_clamp (show i < 2 ^ 31 by omega), true_and, and_true, eq_self, true_or, or_true, bi_01, mx_nl_i, mx_nl_r, mx_nl_n, mx_nl_f, mx_nl_d]
    · simp only [i50_0, i50_1, i50_4, i50_5, i50_6, i50_9, i50_11, i50_14, i50_15, i50_16, i50_19, i50_20, i50_23, i50_25, i50_28, i50_29, i50_30, i50_33, i50_34, i50_35, i50_e, hof_gk w, hof_gv w, c1, c2, not_false_eq_true, if_false, if_true, ar_ik g, ar_is g, mx_inN hi hn, nI_clamp (show i < 2 ^ 31 by omega), true_and, and_true, eq_self, true_or, or_true, bi_01, mx_nl_i, mx_nl_r, mx_nl_n, mx_nl_f, mx_nl_d]
def fl_ (f : Nat → Int32) (k : Nat) : Nat → Int32 := fun j => if j < k then 0 else f j
theorem fl_s (f : Nat → Int32) (k : Nat) : upd (fl_ f k) k 0 = fl_ f (k + 1) := by
  funext j
  unfold upd fl_
  by_cases h1 : j = k
  · subst h1; simp
  · by_cases h2 : j < k
    · simp [h1, h2, Nat.lt_succ_of_lt h2]
    · simp [h1, h2, show ¬ j < k + 1 by omega]
theorem k_fill_l {a n : Nat} {f : Nat → Int32} (g : h[a]? = some (.inl (0, n, .inl f))) (hn : n < 2 ^ 30) : ∀ m k, k + m = n → ex_ X d 217 5 [.ref a, .int 0, .int (nI k), .int (nI n)] [] (h.set a (.inl (0, n, .inl (fl_ f k)))) Q = Q none (h.set a (.inl (0, n, .inl (fl_ f n)))) := by
  intro m
  induction m with
  | zero =>
    intro k hk
    have e : k = n := by omega
    subst e
    rw [i217_5]
    simp only [i217_0, i217_1, i217_2, i217_2f0, i217_2f1, i217_2f2, i217_2f3, i217_3, i217_3f0, i217_3f1, i217_4, i217_6, i217_7, i217_10, i217_10f0, i217_10f1, i217_10f2, i217_10f3, i217_11, i217_12, i217_13, i217_14, i217_17, i217_20, i217_e, Int32.le_refl, if_true, true_and, and_true, eq_self, true_or, or_true, bi_01, mx_nl_i, mx_nl_r, mx_nl_n, mx_nl_f, mx_nl_d]
  | succ m ih =>
    intro k hk
    have hc : ¬ ((nI n : Int32) ≤ nI k) := by rw [nI_leI (by omega) (by omega)]; omega
    have g' : (h.set a (.inl (0, n, .inl (fl_ f k))))[a]? = some (.inl (0, n, .inl (fl_ f k))) := mx_gss (by rw [g]; rfl)
    rw [i217_5]
    simp only [i217_0, i217_1, i217_2, i217_2f0, i217_2f1, i217_2f2, i217_2f3, i217_3, i217_3f0, i217_3f1, i217_4, i217_6, i217_7, i217_10, i217_10f0, i217_10f1, i217_10f2, i217_10f3, i217_11, i217_12, i217_13, i217_14, i217_17, i217_20, i217_e, hc, if_false, ar_ik g', ar_is g', mx_inN (show k < n by omega) (show n < 2 ^ 31 by omega), nI_clamp (show k < 2 ^ 31 by omega), List.set_set, fl_s, nI_1, true_and, and_true, eq_self, true_or, or_true, bi_01, mx_nl_i, mx_nl_r, mx_nl_n, mx_nl_f, mx_nl_d]
    exact ih (k + 1) (by omega)
theorem k_fill {a n : Nat} {f : Nat → Int32} (g : h[a]? = some (.inl (0, n, .inl f))) (hn : n < 2 ^ 30) : ev_ X d 217 [.ref a, .int 0] h Q = Q none (h.set a (.inl (0, n, .inl (fl_ f n)))) := by
  have key := k_fill_l (X := X) (d := d) (Q := Q) g hn n 0 (by omega)
  have e0 : h.set a (.inl (0, n, .inl (fl_ f 0))) = h := mx_setid (by rw [g]; rfl)
  rw [e0] at key
  simp only [i217_0, i217_1, i217_2, i217_2f0, i217_2f1, i217_2f2, i217_2f3, i217_4, i217_6, i217_7, i217_10, i217_10f0, i217_10f1, i217_10f2, i217_10f3, i217_11, i217_12, i217_13, i217_14, i217_17, i217_20, i217_e, i217_3 (ar_al g), show Int32.ofNat n = nI n from rfl, true_and, and_true, eq_self, true_or, or_true, bi_01, mx_nl_i, mx_nl_r, mx_nl_n, mx_nl_f, mx_nl_d]
  exact key
theorem k_isBits {x : Int32} : ev_ X d 113 [.int x] h Q = Q (some (.int (bi_ (decide (x = 0 ∨ x = 8 ∨ x = 16 ∨ x = 32))))) h := by
  by_cases c0 : x = 0
  · simp only [i113_0, i113_1, i113_4, i113_5, i113_7, i113_10, i113_11, i113_13, i113_16, i113_17, i113_19, i113_22, i113_23, i113_26, i113_e, i113_27 mx_01a, i113_27 mx_01b, c0, true_or, if_true, decide_true]; rfl
  · by_cases c1 : x = 8
    · simp only [i113_0, i113_1, i113_4, i113_5, i113_7, i113_10, i113_11, i113_13, i113_16, i113_17, i113_19, i113_22, i113_23, i113_26, i113_e, i113_27 mx_01a, i113_27 mx_01b, c0, c1, true_or, or_true, if_true, if_false, decide_true, show ¬ ((8 : Int32) = 0) from by decide]; rfl
    · by_cases c2 : x = 16
      · simp only [i113_0, i113_1, i113_4, i113_5, i113_7, i113_10, i113_11, i113_13, i113_16, i113_17, i113_19, i113_22, i113_23, i113_26, i113_e, i113_27 mx_01a, i113_27 mx_01b, c2, true_or, or_true, if_true, if_false, decide_true, show ¬ ((16 : Int32) = 0) from by decide, show ¬ ((16 : Int32) = 8) from by decide]; rfl
      · by_cases c3 : x = 32
        · simp only [i113_0, i113_1, i113_4, i113_5, i113_7, i113_10, i113_11, i113_13, i113_16, i113_17, i113_19, i113_22, i113_23, i113_26, i113_e, i113_27 mx_01a, i113_27 mx_01b, c3, or_true, if_true, if_false, decide_true, not_true_eq_false, show ¬ ((32 : Int32) = 0) from by decide, show ¬ ((32 : Int32) = 8) from by decide, show ¬ ((32 : Int32) = 16) from by decide]; rfl
        · simp only [i113_0, i113_1, i113_4, i113_5, i113_7, i113_10, i113_11, i113_13, i113_16, i113_17, i113_19, i113_22, i113_23, i113_26, i113_e, i113_27 mx_01a, i113_27 mx_01b, c0, c1, c2, c3, or_self, if_true, if_false, decide_false, not_false_eq_true]; rfl
set_option maxHeartbeats 1000000 in
theorem q_sheet (c : CW h v A) (ok : OK v A) {a b x : Int32} (k : KC h (sp_sheet v A a b x) Q) : ev_ X (d + 9) 97 [.ref 0, .int a, .int b, .int x] h Q := by
  have cw := c
  obtain ⟨⟨ci, o, z3, z8, z7⟩, c1, c2, c3, c4, c5, c6, ⟨ef, g36, e36⟩, c8⟩ := c
  have md := MD.ab ok.1.1
  have di : DI (A 0) := ⟨ok.1.2.2.2.2.2.2.1, ok.1.2.2.2.2.2.2.2.1⟩
  obtain ⟨mi, mr, mt, ms, r, q, mx⟩ := c1
  replace q : MR (A 0) mi mr (nsA A) (nbA A) := q
  replace mx : MX h (A 0) (G_ (A 0)) mt ms (nsA A) := mx
  have mk : MK h 1 (A 0) (G_ (A 0)) (nsA A) (nbA A) := ⟨mi, mr, mt, ms, r, q, mx⟩
  obtain ⟨hns, hnb, e1, e2, e3⟩ := id md
  have q7 : mi 7 = A 0 1 := by rw [e1]; exact q.1.2.2.2.2.1
  have q12 : mi 12 = A 0 2 := by rw [e2]; exact q.1.2.2.2.2.2
  unfold sp_sheet at k
  by_cases c1 : (0 ≤ a ∧ a ≤ 3)
  case neg =>
    rw [if_neg (fun z => c1 z.1)] at k
    simp only [i97_0, i97_1, i97_4, i97_7, i97_8, i97_11, i97_14, i97_15, i97_16, i97_19, i97_20, i97_21, i97_24, i97_25, i97_28, i97_29, i97_30, i97_33, i97_34, i97_35, i97_38, i97_39, i97_41, i97_44, i97_45, i97_46, i97_49, i97_50, i97_51, i97_54, i97_55, i97_56, i97_57, i97_58, i97_61, i97_62, i97_65, i97_66, i97_69, i97_70, i97_e, cof_gk o, cof_gv o, ob_co o, k_in, k_isSheet, k_isUse, k_isAhead, bi_eq0, decide_true, decide_false, and_self, if_true, if_false, reduceCtorEq, not_true_eq_false, not_false_eq_true, mx_t0, Option.toList_some, Option.toList_none, List.nil_append, List.cons_append, true_and, and_true, eq_self, true_or, or_true, bi_01, mx_nl_i, mx_nl_r, mx_nl_n, mx_nl_f, mx_nl_d, k_e1 o g36, k_e2 o g36, k_e3 o g36, k_e4 o g36, k_e5 o g36, c1]
    exact k.er cw (by decide) (by decide) g36
  by_cases c2' : (b = 0 ∨ b = 8 ∨ b = 16 ∨ b = 32)
  case neg =>
    rw [if_neg (fun z => c2' z.2)] at k
    simp only [i97_0, i97_1, i97_4, i97_7, i97_8, i97_11, i97_14, i97_15, i97_16, i97_19, i97_20, i97_21, i97_24, i97_25, i97_28, i97_29, i97_30, i97_33, i97_34, i97_35, i97_38, i97_39, i97_41, i97_44, i97_45, i97_46, i97_49, i97_50, i97_51, i97_54, i97_55, i97_56, i97_57, i97_58, i97_61, i97_62, i97_65, i97_66, i97_69, i97_70, i97_e, cof_gk o, cof_gv o, ob_co o, k_in, k_isSheet, k_isUse, k_isAhead, bi_eq0, decide_true, decide_false, and_self, if_true, if_false, reduceCtorEq, not_true_eq_false, not_false_eq_true, mx_t0, Option.toList_some, Option.toList_none, List.nil_append, List.cons_append, true_and, and_true, eq_self, true_or, or_true, bi_01, mx_nl_i, mx_nl_r, mx_nl_n, mx_nl_f, mx_nl_d, k_e1 o g36, k_e2 o g36, k_e3 o g36, k_e4 o g36, k_e5 o g36, c1, k_isBits, c2']
    exact k.er cw (by decide) (by decide) g36
  rw [if_pos ⟨c1, c2'⟩] at k
  have hf : ∀ Q', ev_ X (d + 8) 113 [.int b] h Q' = Q' (some (.int (bi_ true))) h := fun Q' => by rw [k_isBits, decide_eq_true c2']
  obtain ⟨s, hs, rfl⟩ := nI_rng (k := 3) (by decide) c1
  rw [nI_clamp (show s < 2 ^ 31 by omega)] at k
  obtain ⟨⟨sf, g35, e35⟩, c6x⟩ := c6
  obtain ⟨w, g, rr, eg⟩ := c6x s (by omega)
  have fin : ∀ z : Int32, z = (if b = 0 then 0 else x) → KC h (1, v, up2 (up2 (up2 A 10 (upd (A 10) s b)) 11 (upd (A 11) s (if b = 0 then 0 else x))) 12 (zs_ (A 12) s 40)) Q → ev_ X (d + 8) 49 [.ref (52 + 2 * s), .int b, .int z] h (fun q h' => ex_ X (d + 9) 97 69 [.ref 0, .int (nI s), .int b, .int x] (q.toList ++ []) h' Q) := by
    intro z hz k
    have w1 : ∀ y t, (h.set (52 + 2 * s) (.inr (7, hof (53 + 2 * s) y t)))[52 + 2 * s]? = some (.inr (7, hof (53 + 2 * s) y t)) := fun y t => mx_gss (by rw [w]; rfl)
    have g1 : ∀ y t, (h.set (52 + 2 * s) (.inr (7, hof (53 + 2 * s) y t)))[53 + 2 * s]? = some (.inl (0, 40, .inl g)) := fun y t => by rw [List.getElem?_set_ne (by omega)]; exact rr
    have fx : FX (52 + 2 * s) (54 + 2 * s) h ((h.set (52 + 2 * s) (.inr (7, hof (53 + 2 * s) b z))).set (53 + 2 * s) (.inl (0, 40, .inl (fl_ g 40)))) := (FX.set (by omega) (by omega) (by omega)).tr (FX.set (by omega) (by omega) (by omega))
    simp only [i49_0, i49_1, i49_2, i49_5, i49_6, i49_7, i49_10, i49_11, i49_14, i49_15, i49_18, i49_e, hof_pk1 w, hof_pf1 w, hof_pk2 (w1 _ _), hof_pf2 (w1 _ _), List.set_set, hof_gk (w1 _ _), hof_gv (w1 _ _), k_fill (g1 _ _) (show 40 < 2 ^ 30 by decide), i97_0, i97_1, i97_4, i97_7, i97_8, i97_11, i97_14, i97_15, i97_16, i97_19, i97_20, i97_21, i97_24, i97_25, i97_28, i97_29, i97_30, i97_33, i97_34, i97_35, i97_38, i97_39, i97_41, i97_44, i97_45, i97_46, i97_49, i97_50, i97_51, i97_54, i97_55, i97_56, i97_57, i97_58, i97_61, i97_62, i97_65, i97_66, i97_69, i97_70, i97_e, Option.toList_some, Option.toList_none, List.nil_append, List.cons_append, true_and, and_true, eq_self, true_or, or_true, bi_01, mx_nl_i, mx_nl_r, mx_nl_n, mx_nl_f, mx_nl_d]
    refine k _ (cw.sh (A' := up2 (up2 (up2 A 10 (upd (A 10) s b)) 11 (upd (A 11) s (if b = 0 then 0 else x))) 12 (zs_ (A 12) s 40)) (i := s) (by omega) fx ?_ ?_ ?_ ?_ ?_ ?_ ?_ ?_) (fx.ft (by omega))
    · rw [up2_n (show 10 ≠ 12 by decide), up2_n (show 10 ≠ 11 by decide), up2_s, up2_n (show 11 ≠ 12 by decide), up2_s, up2_s, pk_us, pk_us, ← hz]
      refine ⟨by rw [List.getElem?_set_ne (by omega)]; exact w1 _ _, fl_ g 40, mx_gss (by rw [g1]; rfl), fun j hj => ?_⟩
      show fl_ g 40 j = zs_ (A 12) s 40 (40 * s + j)
      unfold fl_ zs_
      rw [if_pos hj, if_pos (by omega)]
    · intro j hj hne
      rw [up2_n (show 10 ≠ 12 by decide), up2_n (show 10 ≠ 11 by decide), up2_s, pk_un hne]
    · intro j hj hne
      rw [up2_n (show 11 ≠ 12 by decide), up2_s, pk_un hne]
    · intro j hj hne y hy
      rw [up2_s]
      unfold zs_
      rw [if_neg (by omega)]
    · rw [up2_n (by decide), up2_n (by decide), up2_n (by decide)]
    · rw [up2_n (by decide), up2_n (by decide), up2_n (by decide)]
    · rw [up2_n (by decide), up2_n (by decide), up2_n (by decide)]
    · rw [up2_n (by decide), up2_n (by decide), up2_n (by decide)]
  have i4 : mx_in (nI s) 4 = true := mx_inN (by omega) (by decide)
  by_cases b0 : b = 0
  · rw [if_neg (fun z => z.1 b0), if_neg (fun z => z.1 b0)] at k
    have f0 := fin 0 (by rw [if_pos b0]) k
    simp only [b0] at hf f0
    simp only [i97_0, i97_1, i97_4, i97_7, i97_8, i97_11, i97_14, i97_15, i97_16, i97_19, i97_20, i97_21, i97_24, i97_25, i97_28, i97_29, i97_30, i97_33, i97_34, i97_35, i97_38, i97_39, i97_41, i97_44, i97_45, i97_46, i97_49, i97_50, i97_51, i97_54, i97_55, i97_56, i97_57, i97_58, i97_61, i97_62, i97_65, i97_66, i97_69, i97_70, i97_e, cof_gk o, cof_gv o, ob_co o, k_in, k_isSheet, k_isUse, k_isAhead, bi_eq0, decide_true, decide_false, and_self, if_true, if_false, reduceCtorEq, not_true_eq_false, not_false_eq_true, mx_t0, Option.toList_some, Option.toList_none, List.nil_append, List.cons_append, true_and, and_true, eq_self, true_or, or_true, bi_01, mx_nl_i, mx_nl_r, mx_nl_n, mx_nl_f, mx_nl_d, c1, hf, b0, rr_rk g35, rr_ra g35, i4, nI_clamp (show s < 2 ^ 31 by omega), e35 s (by omega), mxv_s, show (mx_cmp 4).isSome = true from rfl, Bool.and_self, ob_co w]
    exact f0
  · by_cases n0 : x < 0
    · rw [if_pos ⟨b0, n0⟩] at k
      simp only [i97_0, i97_1, i97_4, i97_7, i97_8, i97_11, i97_14, i97_15, i97_16, i97_19, i97_20, i97_21, i97_24, i97_25, i97_28, i97_29, i97_30, i97_33, i97_34, i97_35, i97_38, i97_39, i97_41, i97_44, i97_45, i97_46, i97_49, i97_50, i97_51, i97_54, i97_55, i97_56, i97_57, i97_58, i97_61, i97_62, i97_65, i97_66, i97_69, i97_70, i97_e, cof_gk o, cof_gv o, ob_co o, k_in, k_isSheet, k_isUse, k_isAhead, bi_eq0, decide_true, decide_false, and_self, if_true, if_false, reduceCtorEq, not_true_eq_false, not_false_eq_true, mx_t0, Option.toList_some, Option.toList_none, List.nil_append, List.cons_append, true_and, and_true, eq_self, true_or, or_true, bi_01, mx_nl_i, mx_nl_r, mx_nl_n, mx_nl_f, mx_nl_d, k_e1 o g36, k_e2 o g36, k_e3 o g36, k_e4 o g36, k_e5 o g36, c1, hf, b0, Int32.not_le.mpr n0]
      exact k.er cw (by decide) (by decide) g36
    · rw [if_neg (fun z => n0 z.2)] at k
      by_cases n4 : 40 < x
      · rw [if_pos ⟨b0, n4⟩] at k
        simp only [i97_0, i97_1, i97_4, i97_7, i97_8, i97_11, i97_14, i97_15, i97_16, i97_19, i97_20, i97_21, i97_24, i97_25, i97_28, i97_29, i97_30, i97_33, i97_34, i97_35, i97_38, i97_39, i97_41, i97_44, i97_45, i97_46, i97_49, i97_50, i97_51, i97_54, i97_55, i97_56, i97_57, i97_58, i97_61, i97_62, i97_65, i97_66, i97_69, i97_70, i97_e, cof_gk o, cof_gv o, ob_co o, k_in, k_isSheet, k_isUse, k_isAhead, bi_eq0, decide_true, decide_false, and_self, if_true, if_false, reduceCtorEq, not_true_eq_false, not_false_eq_true, mx_t0, Option.toList_some, Option.toList_none, List.nil_append, List.cons_append, true_and, and_true, eq_self, true_or, or_true, bi_01, mx_nl_i, mx_nl_r, mx_nl_n, mx_nl_f, mx_nl_d, k_e1 o g36, k_e2 o g36, k_e3 o g36, k_e4 o g36, k_e5 o g36, c1, hf, b0, Int32.not_lt.mp n0, Int32.not_le.mpr n4]
        exact k.er cw (by decide) (by decide) g36
      · rw [if_neg (fun z => n4 z.2)] at k
        simp only [i97_0, i97_1, i97_4, i97_7, i97_8, i97_11, i97_14, i97_15, i97_16, i97_19, i97_20, i97_21, i97_24, i97_25, i97_28, i97_29, i97_30, i97_33, i97_34, i97_35, i97_38, i97_39, i97_41, i97_44, i97_45, i97_46, i97_49, i97_50, i97_51, i97_54, i97_55, i97_56, i97_57, i97_58, i97_61, i97_62, i97_65, i97_66, i97_69, i97_70, i97_e, cof_gk o, cof_gv o, ob_co o, k_in, k_isSheet, k_isUse, k_isAhead, bi_eq0, decide_true, decide_false, and_self, if_true, if_false, reduceCtorEq, not_true_eq_false, not_false_eq_true, mx_t0, Option.toList_some, Option.toList_none, List.nil_append, List.cons_append, true_and, and_true, eq_self, true_or, or_true, bi_01, mx_nl_i, mx_nl_r, mx_nl_n, mx_nl_f, mx_nl_d, c1, hf, b0, Int32.not_lt.mp n0, Int32.not_lt.mp n4, rr_rk g35, rr_ra g35, i4, nI_clamp (show s < 2 ^ 31 by omega), e35 s (by omega), mxv_s, show (mx_cmp 4).isSome = true from rfl, Bool.and_self, ob_co w]
        exact fin x (by rw [if_neg b0]) k
theorem q_put (c : CW h v A) (ok : OK v A) {a b x : Int32} (k : KC h (sp_put v A a b x) Q) : ev_ X (d + 9) 98 [.ref 0, .int a, .int b, .int x] h Q := by
  have cw := c
  obtain ⟨⟨ci, o, z3, z8, z7⟩, c1, c2, c3, c4, c5, c6, ⟨ef, g36, e36⟩, c8⟩ := c
  have md := MD.ab ok.1.1
  have di : DI (A 0) := ⟨ok.1.2.2.2.2.2.2.1, ok.1.2.2.2.2.2.2.2.1⟩
  obtain ⟨mi, mr, mt, ms, r, q, mx⟩ := c1
  replace q : MR (A 0) mi mr (nsA A) (nbA A) := q
  replace mx : MX h (A 0) (G_ (A 0)) mt ms (nsA A) := mx
  have mk : MK h 1 (A 0) (G_ (A 0)) (nsA A) (nbA A) := ⟨mi, mr, mt, ms, r, q, mx⟩
  obtain ⟨hns, hnb, e1, e2, e3⟩ := id md
  have q7 : mi 7 = A 0 1 := by rw [e1]; exact q.1.2.2.2.2.1
  have q12 : mi 12 = A 0 2 := by rw [e2]; exact q.1.2.2.2.2.2
  unfold sp_put at k
  by_cases c1 : (0 ≤ a ∧ a ≤ 3)
  case neg =>
    rw [if_neg c1] at k
    simp only [i98_0, i98_1, i98_4, i98_7, i98_8, i98_9, i98_12, i98_13, i98_14, i98_17, i98_18, i98_19, i98_21, i98_23, i98_26, i98_29, i98_30, i98_31, i98_34, i98_35, i98_36, i98_37, i98_39, i98_42, i98_43, i98_44, i98_47, i98_50, i98_51, i98_52, i98_55, i98_56, i98_58, i98_59, i98_60, i98_63, i98_64, i98_e, cof_gk o, cof_gv o, ob_co o, k_in, k_isSheet, k_isUse, k_isAhead, bi_eq0, decide_true, decide_false, and_self, if_true, if_false, reduceCtorEq, not_true_eq_false, not_false_eq_true, mx_t0, Option.toList_some, Option.toList_none, List.nil_append, List.cons_append, true_and, and_true, eq_self, true_or, or_true, bi_01, mx_nl_i, mx_nl_r, mx_nl_n, mx_nl_f, mx_nl_d, k_e1 o g36, k_e2 o g36, k_e3 o g36, k_e4 o g36, k_e5 o g36, c1]
    exact k.er cw (by decide) (by decide) g36
  rw [if_pos c1] at k
  obtain ⟨s, hs, rfl⟩ := nI_rng (k := 3) (by decide) c1
  rw [nI_clamp (show s < 2 ^ 31 by omega)] at k
  obtain ⟨⟨sf, g35, e35⟩, c6x⟩ := c6
  obtain ⟨w, g, rr, eg⟩ := c6x s (by omega)
  obtain ⟨⟨z, hz, ez⟩, _⟩ := ok.2.2.2.2.2 s (by omega)
  have i4 : mx_in (nI s) 4 = true := mx_inN (by omega) (by decide)
  by_cases b0 : A 10 s = 0
  · rw [if_pos b0] at k
    simp only [i98_0, i98_1, i98_4, i98_7, i98_8, i98_9, i98_12, i98_13, i98_14, i98_17, i98_18, i98_19, i98_21, i98_23, i98_26, i98_29, i98_30, i98_31, i98_34, i98_35, i98_36, i98_37, i98_39, i98_42, i98_43, i98_44, i98_47, i98_50, i98_51, i98_52, i98_55, i98_56, i98_58, i98_59, i98_60, i98_63, i98_64, i98_e, cof_gk o, cof_gv o, ob_co o, k_in, k_isSheet, k_isUse, k_isAhead, bi_eq0, decide_true, decide_false, and_self, if_true, if_false, reduceCtorEq, not_true_eq_false, not_false_eq_true, mx_t0, Option.toList_some, Option.toList_none, List.nil_append, List.cons_append, true_and, and_true, eq_self, true_or, or_true, bi_01, mx_nl_i, mx_nl_r, mx_nl_n, mx_nl_f, mx_nl_d, k_e1 o g36, k_e2 o g36, k_e3 o g36, k_e4 o g36, k_e5 o g36, c1, rr_rk g35, rr_ra g35, i4, nI_clamp (show s < 2 ^ 31 by omega), e35 s (by omega), mxv_s, show (mx_cmp 4).isSome = true from rfl, Bool.and_self, ob_co w, k_missing w, b0]
    exact k.er cw (by decide) (by decide) g36
  rw [if_neg b0] at k
  by_cases c9 : (0 ≤ b ∧ b ≤ A 11 s - 1)
  case neg =>
    rw [if_neg c9] at k
    simp only [i98_0, i98_1, i98_4, i98_7, i98_8, i98_9, i98_12, i98_13, i98_14, i98_17, i98_18, i98_19, i98_21, i98_23, i98_26, i98_29, i98_30, i98_31, i98_34, i98_35, i98_36, i98_37, i98_39, i98_42, i98_43, i98_44, i98_47, i98_50, i98_51, i98_52, i98_55, i98_56, i98_58, i98_59, i98_60, i98_63, i98_64, i98_e, cof_gk o, cof_gv o, ob_co o, k_in, k_isSheet, k_isUse, k_isAhead, bi_eq0, decide_true, decide_false, and_self, if_true, if_false, reduceCtorEq, not_true_eq_false, not_false_eq_true, mx_t0, Option.toList_some, Option.toList_none, List.nil_append, List.cons_append, true_and, and_true, eq_self, true_or, or_true, bi_01, mx_nl_i, mx_nl_r, mx_nl_n, mx_nl_f, mx_nl_d, k_e1 o g36, k_e2 o g36, k_e3 o g36, k_e4 o g36, k_e5 o g36, c1, rr_rk g35, rr_ra g35, i4, nI_clamp (show s < 2 ^ 31 by omega), e35 s (by omega), mxv_s, show (mx_cmp 4).isSome = true from rfl, Bool.and_self, ob_co w, k_missing w, b0, hof_gk w, hof_gv w, c9]
    exact k.er cw (by decide) (by decide) g36
  rw [if_pos c9] at k
  have c9' := c9
  rw [ez] at c9'
  obtain ⟨t, ht, rfl⟩ := nI_sel (by omega) c9'
  rw [nI_clamp (show t < 2 ^ 31 by omega)] at k
  have fx : FX (52 + 2 * s) (54 + 2 * s) h (h.set (53 + 2 * s) (.inl (0, 40, .inl (upd g t (nrw (A 10 s) x))))) := FX.set (by omega) (by omega) (by omega)
  simp only [i98_0, i98_1, i98_4, i98_7, i98_8, i98_9, i98_12, i98_13, i98_14, i98_17, i98_18, i98_19, i98_21, i98_23, i98_26, i98_29, i98_30, i98_31, i98_34, i98_35, i98_36, i98_37, i98_39, i98_42, i98_43, i98_44, i98_47, i98_50, i98_51, i98_52, i98_55, i98_56, i98_58, i98_59, i98_60, i98_63, i98_64, i98_e, cof_gk o, cof_gv o, ob_co o, k_in, k_isSheet, k_isUse, k_isAhead, bi_eq0, decide_true, decide_false, and_self, if_true, if_false, reduceCtorEq, not_true_eq_false, not_false_eq_true, mx_t0, Option.toList_some, Option.toList_none, List.nil_append, List.cons_append, true_and, and_true, eq_self, true_or, or_true, bi_01, mx_nl_i, mx_nl_r, mx_nl_n, mx_nl_f, mx_nl_d, c1, rr_rk g35, rr_ra g35, i4, nI_clamp (show s < 2 ^ 31 by omega), e35 s (by omega), mxv_s, show (mx_cmp 4).isSome = true from rfl, Bool.and_self, ob_co w, k_missing w, b0, hof_gk w, hof_gv w, c9, k_write w rr (show t < 40 by omega) (by decide)]
  refine k _ (cw.sh (A' := up2 A 12 (upd (A 12) (40 * s + t) (nrw (A 10 s) x))) (i := s) (by omega) fx ?_ ?_ ?_ ?_ ?_ ?_ ?_ ?_) (fx.ft (by omega))
  · rw [up2_n (show 10 ≠ 12 by decide), up2_n (show 11 ≠ 12 by decide), up2_s]
    refine ⟨by rw [List.getElem?_set_ne (by omega)]; exact w, _, mx_gss (by rw [rr]; rfl), fun j hj => ?_⟩
    show upd g t (nrw (A 10 s) x) j = upd (A 12) (40 * s + t) (nrw (A 10 s) x) (40 * s + j)
    by_cases e : j = t
    · subst e; rw [pk_us, pk_us]
    · rw [pk_un e, pk_un (by omega)]; exact eg j hj
  · intro j hj hne; rw [up2_n (by decide)]
  · intro j hj hne; rw [up2_n (by decide)]
  · intro j hj hne y hy
    rw [up2_s, pk_un (by omega)]
  · exact up2_n (by decide)
  · exact up2_n (by decide)
  · exact up2_n (by decide)
  · exact up2_n (by decide)
theorem hold_eq {n i : Int32} {z : Nat} (hz : z ≤ 40) : (¬ i < 0 ∧ ¬ n < 0 ∧ ¬ nI z < n ∧ ¬ nI z - n < i) ↔ (¬ n < 0 ∧ ¬ i < 0 ∧ ¬ nI z - i < n) := by
  constructor
  · rintro ⟨a, b, c, e⟩
    refine ⟨b, a, fun q => ?_⟩
    simp only [Int32.lt_iff_toInt_lt] at a b c e q
    have t0 := t0_
    have tz : (nI z).toInt = z := nI_toInt (by omega)
    have ii := Int32.toInt_lt i
    have in_ := Int32.toInt_lt n
    rw [sb_ (by omega) (by omega)] at e q
    omega
  · rintro ⟨b, a, e⟩
    have t0 := t0_
    have tz : (nI z).toInt = z := nI_toInt (by omega)
    have ii := Int32.toInt_lt i
    have in_ := Int32.toInt_lt n
    simp only [Int32.lt_iff_toInt_lt] at a b e ⊢
    rw [sb_ (by omega) (by omega)] at e
    refine ⟨a, b, by omega, ?_⟩
    rw [sb_ (by omega) (by omega)]
    omega
set_option maxHeartbeats 1000000 in
theorem q_move (c : CW h v A) (ok : OK v A) {a i b j n : Int32} (k : KC h (sp_move v A a i b j n) Q) : ev_ X (d + 9) 99 [.ref 0, .int a, .int i, .int b, .int j, .int n] h Q := by
  have cw := c
  obtain ⟨⟨ci, o, z3, z8, z7⟩, c1, c2, c3, c4, c5, c6, ⟨ef, g36, e36⟩, c8⟩ := c
  have md := MD.ab ok.1.1
  have di : DI (A 0) := ⟨ok.1.2.2.2.2.2.2.1, ok.1.2.2.2.2.2.2.2.1⟩
  obtain ⟨mi, mr, mt, ms, r, q, mx⟩ := c1
  replace q : MR (A 0) mi mr (nsA A) (nbA A) := q
  replace mx : MX h (A 0) (G_ (A 0)) mt ms (nsA A) := mx
  have mk : MK h 1 (A 0) (G_ (A 0)) (nsA A) (nbA A) := ⟨mi, mr, mt, ms, r, q, mx⟩
  obtain ⟨hns, hnb, e1, e2, e3⟩ := id md
  have q7 : mi 7 = A 0 1 := by rw [e1]; exact q.1.2.2.2.2.1
  have q12 : mi 12 = A 0 2 := by rw [e2]; exact q.1.2.2.2.2.2
  unfold sp_move at k
  by_cases c1 : (0 ≤ a ∧ a ≤ 3)
  case neg =>
    rw [if_neg (fun z => c1 z.1)] at k
    simp only [i99_0, i99_1, i99_4, i99_7, i99_8, i99_11, i99_14, i99_15, i99_16, i99_19, i99_20, i99_21, i99_24, i99_25, i99_26, i99_28, i99_29, i99_32, i99_33, i99_34, i99_36, i99_38, i99_41, i99_44, i99_46, i99_49, i99_52, i99_53, i99_54, i99_57, i99_58, i99_60, i99_63, i99_65, i99_68, i99_71, i99_72, i99_73, i99_76, i99_77, i99_79, i99_80, i99_82, i99_85, i99_88, i99_90, i99_92, i99_94, i99_97, i99_100, i99_101, i99_102, i99_105, i99_106, i99_108, i99_111, i99_112, i99_114, i99_117, i99_119, i99_121, i99_124, i99_126, i99_e, cof_gk o, cof_gv o, ob_co o, k_in, k_isSheet, k_isUse, k_isAhead, bi_eq0, decide_true, decide_false, and_self, if_true, if_false, reduceCtorEq, not_true_eq_false, not_false_eq_true, mx_t0, Option.toList_some, Option.toList_none, List.nil_append, List.cons_append, true_and, and_true, eq_self, true_or, or_true, bi_01, mx_nl_i, mx_nl_r, mx_nl_n, mx_nl_f, mx_nl_d, k_e1 o g36, k_e2 o g36, k_e3 o g36, k_e4 o g36, k_e5 o g36, c1]
    exact k.er cw (by decide) (by decide) g36
  by_cases c2' : (0 ≤ b ∧ b ≤ 3)
  case neg =>
    rw [if_neg (fun z => c2' z.2)] at k
    simp only [i99_0, i99_1, i99_4, i99_7, i99_8, i99_11, i99_14, i99_15, i99_16, i99_19, i99_20, i99_21, i99_24, i99_25, i99_26, i99_28, i99_29, i99_32, i99_33, i99_34, i99_36, i99_38, i99_41, i99_44, i99_46, i99_49, i99_52, i99_53, i99_54, i99_57, i99_58, i99_60, i99_63, i99_65, i99_68, i99_71, i99_72, i99_73, i99_76, i99_77, i99_79, i99_80, i99_82, i99_85, i99_88, i99_90, i99_92, i99_94, i99_97, i99_100, i99_101, i99_102, i99_105, i99_106, i99_108, i99_111, i99_112, i99_114, i99_117, i99_119, i99_121, i99_124, i99_126, i99_e, cof_gk o, cof_gv o, ob_co o, k_in, k_isSheet, k_isUse, k_isAhead, bi_eq0, decide_true, decide_false, and_self, if_true, if_false, reduceCtorEq, not_true_eq_false, not_false_eq_true, mx_t0, Option.toList_some, Option.toList_none, List.nil_append, List.cons_append, true_and, and_true, eq_self, true_or, or_true, bi_01, mx_nl_i, mx_nl_r, mx_nl_n, mx_nl_f, mx_nl_d, k_e1 o g36, k_e2 o g36, k_e3 o g36, k_e4 o g36, k_e5 o g36, c1, c2']
    exact k.er cw (by decide) (by decide) g36
  rw [if_pos ⟨c1, c2'⟩] at k
  obtain ⟨s, hs, rfl⟩ := nI_rng (k := 3) (by decide) c1
  obtain ⟨t, ht, rfl⟩ := nI_rng (k := 3) (by decide) c2'
  rw [nI_clamp (show s < 2 ^ 31 by omega), nI_clamp (show t < 2 ^ 31 by omega)] at k
  obtain ⟨⟨sf, g35, e35⟩, c6x⟩ := c6
  obtain ⟨w, g, rr, eg⟩ := c6x s (by omega)
  obtain ⟨w', g', rr', eg'⟩ := c6x t (by omega)
  obtain ⟨⟨z, hz, ez⟩, _⟩ := ok.2.2.2.2.2 s (by omega)
  obtain ⟨⟨z', hz', ez'⟩, _⟩ := ok.2.2.2.2.2 t (by omega)
  have i4 : mx_in (nI s) 4 = true := mx_inN (by omega) (by decide)
  have j4 : mx_in (nI t) 4 = true := mx_inN (by omega) (by decide)
  by_cases b0 : A 10 s = 0
  · rw [if_pos (Or.inl b0)] at k
    simp only [i99_0, i99_1, i99_4, i99_7, i99_8, i99_11, i99_14, i99_15, i99_16, i99_19, i99_20, i99_21, i99_24, i99_25, i99_26, i99_28, i99_29, i99_32, i99_33, i99_34, i99_36, i99_38, i99_41, i99_44, i99_46, i99_49, i99_52, i99_53, i99_54, i99_57, i99_58, i99_60, i99_63, i99_65, i99_68, i99_71, i99_72, i99_73, i99_76, i99_77, i99_79, i99_80, i99_82, i99_85, i99_88, i99_90, i99_92, i99_94, i99_97, i99_100, i99_101, i99_102, i99_105, i99_106, i99_108, i99_111, i99_112, i99_114, i99_117, i99_119, i99_121, i99_124, i99_126, i99_e, cof_gk o, cof_gv o, ob_co o, k_in, k_isSheet, k_isUse, k_isAhead, bi_eq0, decide_true, decide_false, and_self, if_true, if_false, reduceCtorEq, not_true_eq_false, not_false_eq_true, mx_t0, Option.toList_some, Option.toList_none, List.nil_append, List.cons_append, true_and, and_true, eq_self, true_or, or_true, bi_01, mx_nl_i, mx_nl_r, mx_nl_n, mx_nl_f, mx_nl_d, k_e1 o g36, k_e2 o g36, k_e3 o g36, k_e4 o g36, k_e5 o g36, c1, c2', rr_rk g35, rr_ra g35, i4, j4, nI_clamp (show s < 2 ^ 31 by omega), nI_clamp (show t < 2 ^ 31 by omega), e35 s (by omega), e35 t (by omega), mxv_s, show (mx_cmp 4).isSome = true from rfl, Bool.and_self, ob_co w, ob_co w', k_missing w, b0]
    exact k.er cw (by decide) (by decide) g36
  by_cases b1 : A 10 t = 0
  · rw [if_pos (Or.inr b1)] at k
    simp only [i99_0, i99_1, i99_4, i99_7, i99_8, i99_11, i99_14, i99_15, i99_16, i99_19, i99_20, i99_21, i99_24, i99_25, i99_26, i99_28, i99_29, i99_32, i99_33, i99_34, i99_36, i99_38, i99_41, i99_44, i99_46, i99_49, i99_52, i99_53, i99_54, i99_57, i99_58, i99_60, i99_63, i99_65, i99_68, i99_71, i99_72, i99_73, i99_76, i99_77, i99_79, i99_80, i99_82, i99_85, i99_88, i99_90, i99_92, i99_94, i99_97, i99_100, i99_101, i99_102, i99_105, i99_106, i99_108, i99_111, i99_112, i99_114, i99_117, i99_119, i99_121, i99_124, i99_126, i99_e, cof_gk o, cof_gv o, ob_co o, k_in, k_isSheet, k_isUse, k_isAhead, bi_eq0, decide_true, decide_false, and_self, if_true, if_false, reduceCtorEq, not_true_eq_false, not_false_eq_true, mx_t0, Option.toList_some, Option.toList_none, List.nil_append, List.cons_append, true_and, and_true, eq_self, true_or, or_true, bi_01, mx_nl_i, mx_nl_r, mx_nl_n, mx_nl_f, mx_nl_d, k_e1 o g36, k_e2 o g36, k_e3 o g36, k_e4 o g36, k_e5 o g36, c1, c2', rr_rk g35, rr_ra g35, i4, j4, nI_clamp (show s < 2 ^ 31 by omega), nI_clamp (show t < 2 ^ 31 by omega), e35 s (by omega), e35 t (by omega), mxv_s, show (mx_cmp 4).isSome = true from rfl, Bool.and_self, ob_co w, ob_co w', k_missing w, k_missing w', b0, b1]
    exact k.er cw (by decide) (by decide) g36
  rw [if_neg (fun q => q.elim b0 b1)] at k
  by_cases b2 : A 10 s = A 10 t
  case neg =>
    rw [if_neg b2] at k
    simp only [i99_0, i99_1, i99_4, i99_7, i99_8, i99_11, i99_14, i99_15, i99_16, i99_19, i99_20, i99_21, i99_24, i99_25, i99_26, i99_28, i99_29, i99_32, i99_33, i99_34, i99_36, i99_38, i99_41, i99_44, i99_46, i99_49, i99_52, i99_53, i99_54, i99_57, i99_58, i99_60, i99_63, i99_65, i99_68, i99_71, i99_72, i99_73, i99_76, i99_77, i99_79, i99_80, i99_82, i99_85, i99_88, i99_90, i99_92, i99_94, i99_97, i99_100, i99_101, i99_102, i99_105, i99_106, i99_108, i99_111, i99_112, i99_114, i99_117, i99_119, i99_121, i99_124, i99_126, i99_e, cof_gk o, cof_gv o, ob_co o, k_in, k_isSheet, k_isUse, k_isAhead, bi_eq0, decide_true, decide_false, and_self, if_true, if_false, reduceCtorEq, not_true_eq_false, not_false_eq_true, mx_t0, Option.toList_some, Option.toList_none, List.nil_append, List.cons_append, true_and, and_true, eq_self, true_or, or_true, bi_01, mx_nl_i, mx_nl_r, mx_nl_n, mx_nl_f, mx_nl_d, k_e1 o g36, k_e2 o g36, k_e3 o g36, k_e4 o g36, k_e5 o g36, c1, c2', rr_rk g35, rr_ra g35, i4, j4, nI_clamp (show s < 2 ^ 31 by omega), nI_clamp (show t < 2 ^ 31 by omega), e35 s (by omega), e35 t (by omega), mxv_s, show (mx_cmp 4).isSome = true from rfl, Bool.and_self, ob_co w, ob_co w', k_missing w, k_missing w', b0, b1, hof_gk w, hof_gv w, hof_gk w', hof_gv w', b2]
    exact k.er cw (by decide) (by decide) g36
  rw [if_pos b2, ez, ez'] at k
  have hA : ∀ Q', ev_ X (d + 8) 51 [.ref (52 + 2 * s), .int i, .int n] h Q' = Q' (some (.int (bi_ (decide (¬ n < 0 ∧ ¬ i < 0 ∧ ¬ nI z - i < n))))) h := fun Q' => by rw [k_holds w, ez, decide_eq_decide.mpr (hold_eq hz)]
  have hB : ∀ Q', ev_ X (d + 8) 51 [.ref (52 + 2 * t), .int j, .int n] h Q' = Q' (some (.int (bi_ (decide (¬ n < 0 ∧ ¬ j < 0 ∧ ¬ nI z' - j < n))))) h := fun Q' => by rw [k_holds w', ez', decide_eq_decide.mpr (hold_eq hz')]
  by_cases h1 : (¬ n < 0 ∧ ¬ i < 0 ∧ ¬ nI z - i < n)
  case neg =>
    have hor : n < 0 ∨ i < 0 ∨ j < 0 ∨ nI z - i < n ∨ nI z' - j < n := by
      by_cases p1 : n < 0
      · exact Or.inl p1
      · by_cases p2 : i < 0
        · exact Or.inr (Or.inl p2)
        · by_cases p3 : nI z - i < n
          · exact Or.inr (Or.inr (Or.inr (Or.inl p3)))
          · exact absurd ⟨p1, p2, p3⟩ h1
    rw [if_pos hor] at k
    have h1' : decide (¬ n < 0 ∧ ¬ i < 0 ∧ ¬ nI z - i < n) = false := decide_eq_false h1
    rw [h1'] at hA
    simp only [i99_0, i99_1, i99_4, i99_7, i99_8, i99_11, i99_14, i99_15, i99_16, i99_19, i99_20, i99_21, i99_24, i99_25, i99_26, i99_28, i99_29, i99_32, i99_33, i99_34, i99_36, i99_38, i99_41, i99_44, i99_46, i99_49, i99_52, i99_53, i99_54, i99_57, i99_58, i99_60, i99_63, i99_65, i99_68, i99_71, i99_72, i99_73, i99_76, i99_77, i99_79, i99_80, i99_82, i99_85, i99_88, i99_90, i99_92, i99_94, i99_97, i99_100, i99_101, i99_102, i99_105, i99_106, i99_108, i99_111, i99_112, i99_114, i99_117, i99_119, i99_121, i99_124, i99_126, i99_e, cof_gk o, cof_gv o, ob_co o, k_in, k_isSheet, k_isUse, k_isAhead, bi_eq0, decide_true, decide_false, and_self, if_true, if_false, reduceCtorEq, not_true_eq_false, not_false_eq_true, mx_t0, Option.toList_some, Option.toList_none, List.nil_append, List.cons_append, true_and, and_true, eq_self, true_or, or_true, bi_01, mx_nl_i, mx_nl_r, mx_nl_n, mx_nl_f, mx_nl_d, k_e1 o g36, k_e2 o g36, k_e3 o g36, k_e4 o g36, k_e5 o g36, c1, c2', rr_rk g35, rr_ra g35, i4, j4, nI_clamp (show s < 2 ^ 31 by omega), nI_clamp (show t < 2 ^ 31 by omega), e35 s (by omega), e35 t (by omega), mxv_s, show (mx_cmp 4).isSome = true from rfl, Bool.and_self, ob_co w, ob_co w', k_missing w, k_missing w', b0, b1, hof_gk w, hof_gv w, hof_gk w', hof_gv w', b2, hA]
    exact k.er cw (by decide) (by decide) g36
  by_cases h2 : (¬ n < 0 ∧ ¬ j < 0 ∧ ¬ nI z' - j < n)
  case neg =>
    have hor : n < 0 ∨ i < 0 ∨ j < 0 ∨ nI z - i < n ∨ nI z' - j < n := by
      by_cases p2 : j < 0
      · exact Or.inr (Or.inr (Or.inl p2))
      · by_cases p3 : nI z' - j < n
        · exact Or.inr (Or.inr (Or.inr (Or.inr p3)))
        · exact absurd ⟨h1.1, p2, p3⟩ h2
    rw [if_pos hor] at k
    have h1' : decide (¬ n < 0 ∧ ¬ i < 0 ∧ ¬ nI z - i < n) = true := decide_eq_true h1
    have h2' : decide (¬ n < 0 ∧ ¬ j < 0 ∧ ¬ nI z' - j < n) = false := decide_eq_false h2
    rw [h1'] at hA
    rw [h2'] at hB
    simp only [i99_0, i99_1, i99_4, i99_7, i99_8, i99_11, i99_14, i99_15, i99_16, i99_19, i99_20, i99_21, i99_24, i99_25, i99_26, i99_28, i99_29, i99_32, i99_33, i99_34, i99_36, i99_38, i99_41, i99_44, i99_46, i99_49, i99_52, i99_53, i99_54, i99_57, i99_58, i99_60, i99_63, i99_65, i99_68, i99_71, i99_72, i99_73, i99_76, i99_77, i99_79, i99_80, i99_82, i99_85, i99_88, i99_90, i99_92, i99_94, i99_97, i99_100, i99_101, i99_102, i99_105, i99_106, i99_108, i99_111, i99_112, i99_114, i99_117, i99_119, i99_121, i99_124, i99_126, i99_e, cof_gk o, cof_gv o, ob_co o, k_in, k_isSheet, k_isUse, k_isAhead, bi_eq0, decide_true, decide_false, and_self, if_true, if_false, reduceCtorEq, not_true_eq_false, not_false_eq_true, mx_t0, Option.toList_some, Option.toList_none, List.nil_append, List.cons_append, true_and, and_true, eq_self, true_or, or_true, bi_01, mx_nl_i, mx_nl_r, mx_nl_n, mx_nl_f, mx_nl_d, k_e1 o g36, k_e2 o g36, k_e3 o g36, k_e4 o g36, k_e5 o g36, c1, c2', rr_rk g35, rr_ra g35, i4, j4, nI_clamp (show s < 2 ^ 31 by omega), nI_clamp (show t < 2 ^ 31 by omega), e35 s (by omega), e35 t (by omega), mxv_s, show (mx_cmp 4).isSome = true from rfl, Bool.and_self, ob_co w, ob_co w', k_missing w, k_missing w', b0, b1, hof_gk w, hof_gv w, hof_gk w', hof_gv w', b2, hA, hB]
    exact k.er cw (by decide) (by decide) g36
  have hno : ¬ (n < 0 ∨ i < 0 ∨ j < 0 ∨ nI z - i < n ∨ nI z' - j < n) := by
    rintro (p | p | p | p | p)
    · exact h1.1 p
    · exact h1.2.1 p
    · exact h2.2.1 p
    · exact h1.2.2 p
    · exact h2.2.2 p
  rw [if_neg hno] at k
  have h1' : decide (¬ n < 0 ∧ ¬ i < 0 ∧ ¬ nI z - i < n) = true := decide_eq_true h1
  have h2' : decide (¬ n < 0 ∧ ¬ j < 0 ∧ ¬ nI z' - j < n) = true := decide_eq_true h2
  rw [h1'] at hA
  rw [h2'] at hB
  obtain ⟨N, I, eN, eI, hI⟩ := nI_hold hz h1.1 h1.2.1 h1.2.2
  obtain ⟨N2, J, eN2, eJ, hJ⟩ := nI_hold hz' h2.1 h2.2.1 h2.2.2
  have hNb := Int32.toInt_lt n
  have eNN : N = N2 := by
    rw [eN] at eN2
    exact (nI_eq (by omega) (by omega)).mp eN2
  subst eNN
  have ck : decide ((0 : Int32) ≤ n ∧ (0 : Int32) ≤ j ∧ (0 : Int32) ≤ i ∧ i.toNatClampNeg + n.toNatClampNeg ≤ 40 ∧ j.toNatClampNeg + n.toNatClampNeg ≤ 40) = true := by
    rw [decide_eq_true_eq]
    refine ⟨Int32.not_lt.mp h1.1, Int32.not_lt.mp h2.2.1, Int32.not_lt.mp h1.2.1, ?_, ?_⟩
    · rw [eI, eN, nI_clamp (by omega), nI_clamp (by omega)]; omega
    · rw [eJ, eN, nI_clamp (by omega), nI_clamp (by omega)]; omega
  have fx : FX (52 + 2 * t) (54 + 2 * t) h (h.set (53 + 2 * t) (.inl (0, 40, .inl (va_cpy g g' i.toNatClampNeg j.toNatClampNeg n.toNatClampNeg)))) := FX.set (by omega) (by omega) (by omega)
  simp only [i99_0, i99_1, i99_4, i99_7, i99_8, i99_11, i99_14, i99_15, i99_16, i99_19, i99_20, i99_21, i99_24, i99_25, i99_26, i99_28, i99_29, i99_32, i99_33, i99_34, i99_36, i99_38, i99_41, i99_44, i99_46, i99_49, i99_52, i99_53, i99_54, i99_57, i99_58, i99_60, i99_63, i99_65, i99_68, i99_71, i99_72, i99_73, i99_76, i99_77, i99_79, i99_80, i99_82, i99_85, i99_88, i99_90, i99_92, i99_94, i99_97, i99_100, i99_101, i99_102, i99_105, i99_106, i99_108, i99_111, i99_112, i99_114, i99_117, i99_119, i99_121, i99_124, i99_126, i99_e, cof_gk o, cof_gv o, ob_co o, k_in, k_isSheet, k_isUse, k_isAhead, bi_eq0, decide_true, decide_false, and_self, if_true, if_false, reduceCtorEq, not_true_eq_false, not_false_eq_true, mx_t0, Option.toList_some, Option.toList_none, List.nil_append, List.cons_append, true_and, and_true, eq_self, true_or, or_true, bi_01, mx_nl_i, mx_nl_r, mx_nl_n, mx_nl_f, mx_nl_d, c1, c2', rr_rk g35, rr_ra g35, i4, j4, nI_clamp (show s < 2 ^ 31 by omega), nI_clamp (show t < 2 ^ 31 by omega), e35 s (by omega), e35 t (by omega), mxv_s, show (mx_cmp 4).isSome = true from rfl, Bool.and_self, ob_co w, ob_co w', k_missing w, k_missing w', b0, b1, hof_gk w, hof_gv w, hof_gk w', hof_gv w', b2, hA, hB, ck_k rr' rr, cs_k rr' rr, ck]
  refine k _ (cw.sh (A' := up2 A 12 (va_cpy (A 12) (A 12) (40 * s + i.toNatClampNeg) (40 * t + j.toNatClampNeg) n.toNatClampNeg)) (i := t) (by omega) fx ?_ ?_ ?_ ?_ ?_ ?_ ?_ ?_) (fx.ft (by omega))
  · rw [up2_n (show 10 ≠ 12 by decide), up2_n (show 11 ≠ 12 by decide), up2_s]
    refine ⟨by rw [List.getElem?_set_ne (by omega)]; exact w', _, mx_gss (by rw [rr']; rfl), fun x hx => ?_⟩
    show va_cpy g g' i.toNatClampNeg j.toNatClampNeg n.toNatClampNeg x = va_cpy (A 12) (A 12) (40 * s + i.toNatClampNeg) (40 * t + j.toNatClampNeg) n.toNatClampNeg (40 * t + x)
    rw [eI, eJ, eN, nI_clamp (show I < 2 ^ 31 by omega), nI_clamp (show J < 2 ^ 31 by omega), nI_clamp (show N < 2 ^ 31 by omega)]
    by_cases p : J ≤ x ∧ x < J + N
    · rw [pk_cpy_in p.1 p.2, pk_cpy_in (by omega) (by omega), eg _ (by omega)]
      show A 12 (40 * s + (I + (x - J))) = _
      congr 1
      omega
    · rw [pk_cpy_out (by omega), pk_cpy_out (by omega)]
      exact eg' x hx
  · intro y hy hne; rw [up2_n (by decide)]
  · intro y hy hne; rw [up2_n (by decide)]
  · intro y hy hne x hx
    rw [up2_s, eI, eJ, eN, nI_clamp (show I < 2 ^ 31 by omega), nI_clamp (show J < 2 ^ 31 by omega), nI_clamp (show N < 2 ^ 31 by omega)]
    exact pk_cpy_out (by omega)
  · exact up2_n (by decide)
  · exact up2_n (by decide)
  · exact up2_n (by decide)
  · exact up2_n (by decide)
end KQ1
