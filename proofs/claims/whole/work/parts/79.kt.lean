/-! the component's call of down -/
section PB
variable {G : MXGf} {m : Nat → Int32} {ns nb s b : Nat}
theorem hd_lo (x : Int32) : -99999999 ≤ hd_ x (-99999999) 99999999 := by
  unfold hd_
  by_cases c1 : x < -99999999
  · rw [if_pos c1]; decide
  · rw [if_neg c1]
    split
    · decide
    · exact Int32.not_lt.mp c1
theorem gs1_5 : -99999999 ≤ gs1 G m s (20 + 8 * s + 5) := by unfold gs1 ea_; rw [pk_un (by omega), pk_us]; exact hd_lo _
theorem gsl_pb : ∀ n, n ≤ 6 → ∀ s, s < n → -99999999 ≤ gsl G m n (20 + 8 * s + 5)
  | 0, _, s, hs => by omega
  | n + 1, h, s, hs => by
    show -99999999 ≤ gs1 G (gsl G m n) n (20 + 8 * s + 5)
    by_cases e : s = n
    · subst e; exact gs1_5
    · rw [gs1_n (by omega) (by omega) (by omega)]; exact gsl_pb n (by omega) s (by omega)
theorem b1_pb {f th : Int32} {t : Nat} (h : ∀ s, s < ns → -99999999 ≤ m (20 + 8 * s + 5)) : ∀ s, s < ns → -99999999 ≤ (b1_ G m t b f th).1 (20 + 8 * s + 5) := by
  intro s hs
  by_cases e : s = t
  · subst e
    unfold b1_
    split
    · exact h s hs
    · show -99999999 ≤ ea_ _ s _ (20 + 8 * s + 5)
      unfold ea_
      rw [pk_us]
      exact hd_lo _
  · rw [b1_oth (by omega) (by omega)]; exact h s hs
theorem gl_pb {f : Int32} : ∀ (n : Nat) (m wa : Nat → Int32) (th : Int32), (∀ s, s < ns → -99999999 ≤ m (20 + 8 * s + 5)) → ∀ s, s < ns → -99999999 ≤ (gl_ G ns b f n m wa th).1 (20 + 8 * s + 5)
  | 0, m, wa, th, h => h
  | n + 1, m, wa, th, h => by
    unfold gl_
    split
    · exact h
    · exact gl_pb n _ _ _ (b1_pb h)
theorem gbl_pb (h : ∀ s, s < ns → -99999999 ≤ m (20 + 8 * s + 5)) (hns : ns ≤ 6) : ∀ n, n ≤ 8 → ∀ s, s < ns → -99999999 ≤ gbl G m ns n (20 + 8 * s + 5)
  | 0, _ => h
  | n + 1, hn => by
    intro s hs
    show -99999999 ≤ go_ G (gbl G m ns n) ns n (20 + 8 * s + 5)
    unfold go_
    rw [pk_un (by omega)]
    exact gl_pb _ _ _ _ (gbl_pb h hns n (by omega)) s hs
theorem by_pb (hns : ns ≤ 6) (hnb : nb ≤ 8) (hs : s < ns) : -99999999 ≤ by_ G m ns nb (20 + 8 * s + 5) := by
  unfold by_
  rw [pk_un (by omega)]
  exact gbl_pb (fun s hs => gsl_pb ns hns s hs) hns nb hnb s hs
end PB
theorem fw_pb {A : Nat → Nat → Int32} {m : Nat → Int32} {n s : Nat} (md : MD (A 0) (nsA A) (nbA A)) (hn : 1 ≤ n) (hs : s < nsA A) : -99999999 ≤ fw_ A m n (20 + 8 * s + 5) := by
  obtain ⟨k, rfl⟩ : ∃ k, n = k + 1 := ⟨n - 1, by omega⟩
  exact by_pb md.1 md.2.1 hs
theorem dst_cg {A : Nat → Nat → Int32} {s n K r r' : Nat} : ∀ c, (∀ c', c' < c → dg_ r (K - 1 - c') = dg_ r' (K - 1 - c')) → dst A s n K r c = dst A s n K r' c
  | 0, _ => rfl
  | c + 1, h => by
    show fw_ A (upd (dst A s n K r c) (20 + 8 * s + 6) (cut_ (dst A s n K r c (20 + 8 * s + 6)) (ctv (dg_ r (K - 1 - c))))) n = fw_ A (upd (dst A s n K r' c) (20 + 8 * s + 6) (cut_ (dst A s n K r' c (20 + 8 * s + 6)) (ctv (dg_ r' (K - 1 - c))))) n
    rw [dst_cg c (fun c' hc => h c' (Nat.lt_succ_of_lt hc)), h c (Nat.lt_succ_self c)]
theorem cut_pos (x c : Int32) : cut_ x c = -1 ∨ 0 ≤ cut_ x c := by
  unfold cut_
  split
  · split
    · right; assumption
    · right; decide
  · left; rfl
theorem dst_di {A : Nat → Nat → Int32} {s n K r : Nat} (md : MD (A 0) (nsA A) (nbA A)) (di : DI (A 0)) (hs : s < 6) : ∀ c, DI (dst A s n K r c) ∧ MD (dst A s n K r c) (nsA A) (nbA A)
  | 0 => ⟨di, md⟩
  | c + 1 => ⟨((dst_di md di hs c).1.u6 hs (cut_pos _ _)).gon md.1 md.2.1 n, ((dst_di md di hs c).2.up (by omega)).gon n⟩
/-- the row of first leaf, how many leaves, at a level: K cuts in all -/
def lfs (K l lo : Nat) : Prop := lo % 5 ^ (K - l) = 0 ∧ lo + 5 ^ (K - l) ≤ 5 ^ K
theorem lfs_e {K l lo e : Nat} (hK : K = 2 ∨ K = 3) (hl : l < K) (he : e < 5) (h : lfs K l lo) : lfs K (l + 1) (lo + e * 5 ^ (K - (l + 1))) ∧ dg_ (lo + e * 5 ^ (K - (l + 1))) (K - 1 - l) = e ∧ (∀ c, c < l → dg_ (lo + e * 5 ^ (K - (l + 1))) (K - 1 - c) = dg_ lo (K - 1 - c)) ∧ lo + e * 5 ^ (K - (l + 1)) + 5 ^ (K - (l + 1)) = lo + (e + 1) * 5 ^ (K - (l + 1)) ∧ lo + 5 * 5 ^ (K - (l + 1)) = lo + 5 ^ (K - l) := by
  unfold lfs at h ⊢
  rcases hK with rfl | rfl
  · match l, hl with
    | 0, _ =>
      simp only [Nat.reduceAdd, Nat.reduceSub, Nat.reducePow] at h ⊢
      refine ⟨⟨by omega, by omega⟩, ?_, fun c hc => by omega, by omega, by first | trivial | omega⟩
      unfold dg_
      rw [if_neg (by decide), if_pos rfl]
      omega
    | 1, _ =>
      simp only [Nat.reduceAdd, Nat.reduceSub, Nat.reducePow] at h ⊢
      refine ⟨⟨by omega, by omega⟩, ?_, fun c hc => ?_, by omega, by first | trivial | omega⟩
      · unfold dg_
        rw [if_pos rfl]
        omega
      · have : c = 0 := by omega
        subst this
        unfold dg_
        rw [if_neg (by decide), if_pos rfl, if_neg (by decide), if_pos rfl]
        omega
    | n + 2, h => omega
  · match l, hl with
    | 0, _ =>
      simp only [Nat.reduceAdd, Nat.reduceSub, Nat.reducePow] at h ⊢
      refine ⟨⟨by omega, by omega⟩, ?_, fun c hc => by omega, by omega, by first | trivial | omega⟩
      unfold dg_
      rw [if_neg (by decide), if_neg (by decide)]
      omega
    | 1, _ =>
      simp only [Nat.reduceAdd, Nat.reduceSub, Nat.reducePow] at h ⊢
      refine ⟨⟨by omega, by omega⟩, ?_, fun c hc => ?_, by omega, by first | trivial | omega⟩
      · unfold dg_
        rw [if_neg (by decide), if_pos rfl]
        omega
      · have : c = 0 := by omega
        subst this
        unfold dg_
        rw [if_neg (by decide), if_neg (by decide), if_neg (by decide), if_neg (by decide)]
        omega
    | 2, _ =>
      simp only [Nat.reduceAdd, Nat.reduceSub, Nat.reducePow] at h ⊢
      refine ⟨⟨by omega, by omega⟩, ?_, fun c hc => ?_, by omega, by first | trivial | omega⟩
      · unfold dg_
        rw [if_pos rfl]
        omega
      · rcases (show c = 0 ∨ c = 1 by omega) with rfl | rfl
        · unfold dg_
          rw [if_neg (by decide), if_neg (by decide), if_neg (by decide), if_neg (by decide)]
          omega
        · unfold dg_
          rw [if_neg (by decide), if_pos rfl, if_neg (by decide), if_pos rfl]
          omega
    | n + 3, h => omega
/-- what a walk of cuts has found -/
def TCI (h : MXH) (A : Nat → Nat → Int32) (s N K l lo j : Nat) : Prop := ∃ ci f g, h[0]? = some (.inr (11, cof ci)) ∧ ci 16 = (bst (dval A s N K) j).2 ∧ h[50]? = some (.inl (0, 3, .inl f)) ∧ h[51]? = some (.inl (0, 3, .inl g)) ∧ (0 < j → ∀ i, i < K → g i = ctv (dg_ (bst (dval A s N K) j).1 (K - 1 - i))) ∧ (∀ i, i < l → f i = ctv (dg_ lo (K - 1 - i)))
def FD (l : Nat) (h h' : MXH) : Prop := h'.length = h.length ∧ (∀ j, j < 111 → j ≠ 0 → j ≠ 50 → j ≠ 51 → ¬ (60 + 12 * l ≤ j ∧ j < 96) → h'[j]? = h[j]?) ∧ EV h h'
theorem FD.tr {l : Nat} {h1 h2 h3 : MXH} (a : FD l h1 h2) (b : FD l h2 h3) : FD l h1 h3 := ⟨b.1.trans a.1, fun j h1 h2 h3 h4 h5 => (b.2.1 j h1 h2 h3 h4 h5).trans (a.2.1 j h1 h2 h3 h4 h5), a.2.2.tr b.2.2⟩
theorem FD.up {l : Nat} {h1 h2 : MXH} (a : FD (l + 1) h1 h2) : FD l h1 h2 := ⟨a.1, fun j h1 h2 h3 h4 h5 => a.2.1 j h1 h2 h3 h4 (by omega), a.2.2⟩
theorem FD.fx {l lo hi : Nat} {h1 h2 : MXH} (a : FX lo hi h1 h2) (e : 60 + 12 * l ≤ lo ∧ hi ≤ 96) : FD l h1 h2 := ⟨a.1, fun j h1 h2 h3 h4 h5 => a.2.1 j h1 (by omega), a.2.2⟩
theorem FD.rf {l : Nat} (h : MXH) : FD l h h := ⟨rfl, fun _ _ _ _ _ _ => rfl, EV.rf h⟩
theorem FD.s1 {l a : Nat} {h : MXH} {x : va_E} (ha : a = 0 ∨ a = 50 ∨ a = 51) : FD l h (h.set a x) := ⟨List.length_set, fun j h1 h2 h3 h4 h5 => List.getElem?_set_ne (by omega), EV.lo (fun j hj _ => List.getElem?_set_ne (by omega))⟩
theorem FD.mk {l b : Nat} {h h' : MXH} {m : Nat → Int32} {G : MXGf} {ns nb : Nat} (a : FD l h h') (hb : b = 1 ∨ (60 ≤ b ∧ b + 12 ≤ 60 + 12 * l)) (hl : l ≤ 3) (x : MK h b m G ns nb) : MK h' b m G ns nb := by
  obtain ⟨mi, mr, mt, ms, r, q, mx⟩ := x
  exact ⟨mi, mr, mt, ms, r.cg (fun j h1 h2 => a.2.1 j (by omega) (by omega) (by omega) (by omega) (by omega)), q, mx.ev a.2.2⟩
section KT1
variable {X : MXX} {d : Nat} {h : MXH} {Q : MXP} {v : Nat → Int32} {A : Nat → Nat → Int32} {ci : Nat → Int32} {x : Int32} {f : Nat → Int32}
theorem CW.s0 (c : CW h v A) (o : h[0]? = some (.inr (11, cof ci))) : CW (h.set 0 (.inr (11, cof (upd ci 16 x)))) v A := by
  have fx : FX 0 1 h (h.set 0 (.inr (11, cof (upd ci 16 x)))) := FX.set (by omega) (by omega) (by omega)
  obtain ⟨⟨ci', o', z3, z8, z7⟩, c1, c2, c3, c4, c5, c6, c7, c8⟩ := c
  have e : ∀ j, j = 3 ∨ j = 7 ∨ j = 8 → ci' j = ci j := by
    rw [o] at o'
    injection o' with o'; injection o' with o'; injection o' with _ o'
    unfold cof at o'
    injection o' with _ o'; injection o' with _ o'; injection o' with _ o'; injection o' with a3 o'; injection o' with _ o'; injection o' with _ o'; injection o' with _ o'; injection o' with a7 o'; injection o' with a8 o'
    injection a3 with a3; injection a7 with a7; injection a8 with a8
    rintro j (rfl | rfl | rfl)
    · exact a3.symm
    · exact a7.symm
    · exact a8.symm
  refine ⟨⟨_, mx_gss (by rw [o]; rfl), by rw [pk_un (by decide), ← e 3 (by omega)]; exact z3, by rw [pk_un (by decide), ← e 8 (by omega)]; exact z8, fun q => by rw [pk_un (by decide), ← e 7 (by omega)]; exact z7 q⟩, c1.fx fx (by omega), c2.fx fx (by omega), c3.fx fx (by omega), c4.fx fx (by omega), c5.fx fx (by omega), c6.fx fx (by omega), c7.fx fx (by omega), c8.fx fx (by omega)⟩
theorem CW.s50 (c : CW h v A) : CW (h.set 50 (.inl (0, 3, .inl f))) v A := by
  have fx : FX 50 51 h (h.set 50 (.inl (0, 3, .inl f))) := FX.set (by omega) (by omega) (by omega)
  obtain ⟨c0, c1, c2, c3, c4, c5, c6, c7, s37, ⟨cf, g49, e49⟩, ⟨f50, g50⟩, ⟨f51, g51⟩, s60⟩ := c
  exact ⟨c0.fx fx (by omega), c1.fx fx (by omega), c2.fx fx (by omega), c3.fx fx (by omega), c4.fx fx (by omega), c5.fx fx (by omega), c6.fx fx (by omega), c7.fx fx (by omega), s37.fx fx (by omega) (by omega), ⟨cf, by rw [List.getElem?_set_ne (by decide)]; exact g49, e49⟩, ⟨f, mx_gss (by rw [g50]; rfl)⟩, ⟨f51, by rw [List.getElem?_set_ne (by decide)]; exact g51⟩, fun i hi => (s60 i hi).fx fx (by omega) (by omega)⟩
theorem CW.s51 (c : CW h v A) : CW (h.set 51 (.inl (0, 3, .inl f))) v A := by
  have fx : FX 51 52 h (h.set 51 (.inl (0, 3, .inl f))) := FX.set (by omega) (by omega) (by omega)
  obtain ⟨c0, c1, c2, c3, c4, c5, c6, c7, s37, ⟨cf, g49, e49⟩, ⟨f50, g50⟩, ⟨f51, g51⟩, s60⟩ := c
  exact ⟨c0.fx fx (by omega), c1.fx fx (by omega), c2.fx fx (by omega), c3.fx fx (by omega), c4.fx fx (by omega), c5.fx fx (by omega), c6.fx fx (by omega), c7.fx fx (by omega), s37.fx fx (by omega) (by omega), ⟨cf, by rw [List.getElem?_set_ne (by decide)]; exact g49, e49⟩, ⟨f50, by rw [List.getElem?_set_ne (by decide)]; exact g50⟩, ⟨f, mx_gss (by rw [g51]; rfl)⟩, fun i hi => (s60 i hi).fx fx (by omega) (by omega)⟩
theorem ctv_c {e : Nat} (he : e < 5) : mx_cuts e = ctv e := by
  match e, he with
  | 0, _ => rfl
  | 1, _ => rfl
  | 2, _ => rfl
  | 3, _ => rfl
  | 4, _ => rfl
  | n + 5, h => omega
set_option maxHeartbeats 1000000 in
/-- a leaf -/
theorem k_leaf {s N K lo b : Nat} (hs : s < nsA A) (hns : nsA A ≤ 6) (hN1 : 1 ≤ N) (hK : K = 2 ∨ K = 3) (md : MD (A 0) (nsA A) (nbA A)) (c : CW h v A) (t : TCI h A s N K K lo lo) (mk : MK h b (dst A s N K lo K) (G_ (A 0)) (nsA A) (nbA A))
    (k' : ∀ h', CW h' v A → TCI h' A s N K K lo (lo + 1) → FD K h h' → Q none h') : ev_ X (d + 1) 121 [.ref 0, .ref b, .int (nI s), .int (nI N), .int (nI K), .int (nI K)] h Q := by
  obtain ⟨ci, f, g, o, e16, g50, g51, eg, ef⟩ := t
  obtain ⟨mi, mr, mt, ms, r, q, mx⟩ := mk
  have q5 : mr 5 s = dval A s N K lo := (q.2.2.1 s hs).2.1
  have i6 : mx_in (nI s) 6 = true := mx_inN (by omega) (by decide)
  have hb : bst (dval A s N K) (lo + 1) = if dval A s N K lo ≤ (bst (dval A s N K) lo).2 then bst (dval A s N K) lo else (lo, dval A s N K lo) := rfl
  by_cases c9 : dval A s N K lo ≤ (bst (dval A s N K) lo).2
  · rw [if_pos c9] at hb
    simp only [i121_0, i121_2, i121_4, i121_7, i121_9, i121_10, i121_13, i121_13f0, i121_14, i121_17, i121_18, i121_18f, i121_19, i121_19f0, i121_20, i121_23, i121_26, i121_26f0, i121_27, i121_27f0, i121_28, i121_31, i121_32, i121_32f, i121_33, i121_36, i121_36f0, i121_37, i121_40, i121_41, i121_41f0, i121_42, i121_45, i121_46, i121_47, i121_50, i121_51, i121_51f0, i121_52, i121_55, i121_57, i121_58, i121_58f, i121_60, i121_63, i121_63f, i121_65, i121_65f0, i121_68, i121_70, i121_71, i121_73, i121_75, i121_77, i121_80, i121_80f0, i121_82, i121_84, i121_84f, i121_85, i121_87, i121_87f0, i121_88, i121_91, i121_93, i121_95, i121_96, i121_96f0, i121_98, i121_98f0, i121_99, i121_102, i121_102f0, i121_104, i121_105, i121_107, i121_110, i121_110f0, i121_112, i121_113, i121_116, i121_116f0, i121_117, i121_117f0, i121_119, i121_120, i121_121, i121_123, i121_125, i121_126, i121_127, i121_130, i121_133, i121_136, i121_e, Int32.le_refl, if_true, kof_gk r.o, kof_gv r.o, ar_ik r.g5, ar_ia r.g5, i6, nI_clamp (show s < 2 ^ 31 by omega), q5, cof_gk o, cof_gv o, e16, c9, true_and, and_true, eq_self, true_or, or_true, bi_01, mx_nl_i, mx_nl_r, mx_nl_n, mx_nl_f, mx_nl_d]
    refine k' h c ⟨ci, f, g, o, by rw [hb]; exact e16, g50, g51, fun _ => ?_, ef⟩ (FD.rf h)
    rw [hb]
    apply eg
    apply Nat.pos_of_ne_zero
    intro e0
    subst e0
    have p1 : -99999999 ≤ dval A s N K 0 := by
      unfold dval
      rcases hK with rfl | rfl
      · exact fw_pb md hN1 hs
      · exact fw_pb md hN1 hs
    exact absurd (Int32.le_trans p1 c9) (by show ¬ (-99999999 : Int32) ≤ (-100000000); decide)
  · rw [if_neg c9] at hb
    have o1 : (h.set 0 (.inr (11, cof (upd ci 16 (dval A s N K lo)))))[0]? = some (.inr (11, cof (upd ci 16 (dval A s N K lo)))) := mx_gss (by rw [o]; rfl)
    have g50' : (h.set 0 (.inr (11, cof (upd ci 16 (dval A s N K lo)))))[50]? = some (.inl (0, 3, .inl f)) := by rw [List.getElem?_set_ne (by decide)]; exact g50
    have g51' : (h.set 0 (.inr (11, cof (upd ci 16 (dval A s N K lo)))))[51]? = some (.inl (0, 3, .inl g)) := by rw [List.getElem?_set_ne (by decide)]; exact g51
    have tc : (0 : Int32).toNatClampNeg = 0 ∧ (3 : Int32).toNatClampNeg = 3 := by decide
    simp only [i121_0, i121_2, i121_4, i121_7, i121_9, i121_10, i121_13, i121_13f0, i121_14, i121_17, i121_18, i121_18f, i121_19, i121_19f0, i121_20, i121_23, i121_26, i121_26f0, i121_27, i121_27f0, i121_28, i121_31, i121_32, i121_32f, i121_33, i121_36, i121_36f0, i121_37, i121_40, i121_41, i121_41f0, i121_42, i121_45, i121_46, i121_47, i121_50, i121_51, i121_51f0, i121_52, i121_55, i121_57, i121_58, i121_58f, i121_60, i121_63, i121_63f, i121_65, i121_65f0, i121_68, i121_70, i121_71, i121_73, i121_75, i121_77, i121_80, i121_80f0, i121_82, i121_84, i121_84f, i121_85, i121_87, i121_87f0, i121_88, i121_91, i121_93, i121_95, i121_96, i121_96f0, i121_98, i121_98f0, i121_99, i121_102, i121_102f0, i121_104, i121_105, i121_107, i121_110, i121_110f0, i121_112, i121_113, i121_116, i121_116f0, i121_117, i121_117f0, i121_119, i121_120, i121_121, i121_123, i121_125, i121_126, i121_127, i121_130, i121_133, i121_136, i121_e, Int32.le_refl, if_true, kof_gk r.o, kof_gv r.o, ar_ik r.g5, ar_ia r.g5, i6, nI_clamp (show s < 2 ^ 31 by omega), q5, cof_gk o, cof_gv o, e16, c9, if_false, cof_pk16 o, cof_pf16 o, cof_gk o1, cof_gv o1, ck_k g51' g50', cs_k g51' g50', tc, show decide ((0 : Int32) ≤ 3 ∧ 0 + 3 ≤ 3 ∧ 0 + 3 ≤ 3) = true from by decide, true_and, and_true, eq_self, true_or, or_true, bi_01, mx_nl_i, mx_nl_r, mx_nl_n, mx_nl_f, mx_nl_d]
    refine k' _ (c.s0 o).s51 ⟨_, f, va_cpy f g 0 0 3, by rw [List.getElem?_set_ne (by decide)]; exact o1, by rw [hb, pk_us], by rw [List.getElem?_set_ne (by decide)]; exact g50', mx_gss (by rw [g51']; rfl), fun _ i hi => ?_, ef⟩ ((FD.s1 (by omega)).tr (FD.s1 (by omega)))
    rw [hb, pk_cpy_in (by omega) (by omega), show 0 + (i - 0) = i by omega]
    exact ef i hi
set_option maxHeartbeats 2000000 in
theorem k_cuts {s N K : Nat} (hs : s < nsA A) (hN1 : 1 ≤ N) (hN : N ≤ 9) (hK : K = 2 ∨ K = 3) (ok : OK v A) : ∀ (r l lo b D : Nat) (h : MXH) (Q : MXP), r + 7 ≤ D → l + r = K → lfs K l lo → CW h v A → TCI h A s N K l lo lo → MK h b (dst A s N K lo l) (G_ (A 0)) (nsA A) (nbA A) → (b = 1 ∨ (60 ≤ b ∧ b + 12 ≤ 60 + 12 * l)) →
    (∀ h', CW h' v A → TCI h' A s N K l lo (lo + 5 ^ r) → FD l h h' → Q none h') → ev_ X D 121 [.ref 0, .ref b, .int (nI s), .int (nI N), .int (nI K), .int (nI l)] h Q := by
  have md := MD.ab ok.1.1
  have di : DI (A 0) := ⟨ok.1.2.2.2.2.2.2.1, ok.1.2.2.2.2.2.2.2.1⟩
  have hns := md.1
  have hnb := md.2.1
  intro r
  induction r with
  | zero =>
    intro l lo b D h Q hD hl lf c t mk hb k'
    have e : l = K := by omega
    subst e
    obtain ⟨D, rfl⟩ : ∃ D', D = D' + 1 := ⟨D - 1, by omega⟩
    exact k_leaf hs hns hN1 hK md c t mk k'
  | succ r ih =>
    intro l lo b D h Q hD hl lf c t mk hb k'
    obtain ⟨D, rfl⟩ : ∃ D', D = D' + 8 := ⟨D - 8, by omega⟩
    have hlK : l < K := by omega
    have hl3 : l < 3 := by omega
    have er : K - (l + 1) = r := by omega
    have er2 : K - l = r + 1 := by omega
    have hc1 : ¬ ((nI K : Int32) ≤ nI l) := by rw [nI_leI (by omega) (by omega)]; omega
    have hc2 : (nI l : Int32) < 3 := (nI_ltI (b := 3) (by omega) (by decide)).mpr hl3
    have x1 : (nI l + 1 : Int32) = nI (l + 1) := nI_1 l
    have loop : ∀ (m e : Nat) (h1 : MXH) (w10 : Value), e + m = 5 → CW h1 v A → TCI h1 A s N K l lo (lo + e * 5 ^ r) → FD l h h1 → ex_ X (D + 8) 121 73 [.ref 0, .ref b, .int (nI s), .int (nI N), .int (nI K), .int (nI l), .ref (60 + 12 * l), .float 0, .int 5, .int (nI e), w10] [] h1 Q := by
      intro m
      induction m with
      | zero =>
        intro e h1 w10 he c1 t1 f1
        have e5 : e = 5 := by omega
        subst e5
        have hle := (lfs_e (e := 0) hK hlK (by omega) lf).2.2.2.2
        rw [er, er2] at hle
        rw [hle] at t1
        rw [i121_73]
        simp only [i121_0, i121_2, i121_4, i121_7, i121_9, i121_10, i121_13, i121_13f0, i121_14, i121_17, i121_18, i121_18f, i121_19, i121_19f0, i121_20, i121_23, i121_26, i121_26f0, i121_27, i121_27f0, i121_28, i121_31, i121_32, i121_32f, i121_33, i121_36, i121_36f0, i121_37, i121_40, i121_41, i121_41f0, i121_42, i121_45, i121_46, i121_47, i121_50, i121_51, i121_51f0, i121_52, i121_55, i121_57, i121_58, i121_58f, i121_60, i121_63, i121_63f, i121_65, i121_65f0, i121_68, i121_70, i121_71, i121_75, i121_77, i121_80, i121_80f0, i121_82, i121_84, i121_84f, i121_85, i121_87, i121_87f0, i121_88, i121_91, i121_93, i121_95, i121_96, i121_96f0, i121_98, i121_98f0, i121_99, i121_102, i121_102f0, i121_104, i121_105, i121_107, i121_110, i121_110f0, i121_112, i121_113, i121_116, i121_116f0, i121_117, i121_117f0, i121_119, i121_120, i121_121, i121_123, i121_125, i121_126, i121_127, i121_130, i121_133, i121_136, show ((5 : Int32) ≤ nI 5) from by decide, if_true, true_and, and_true, eq_self, true_or, or_true, bi_01, mx_nl_i, mx_nl_r, mx_nl_n, mx_nl_f, mx_nl_d]
        exact k' h1 c1 t1 f1
      | succ m ihm =>
        intro e h1 w10 he c1 t1 f1
        have he5 : e < 5 := by omega
        have hce : ¬ ((5 : Int32) ≤ nI e) := by
          show ¬ (nI 5 ≤ nI e)
          rw [nI_leI (by decide) (by omega)]; omega
        obtain ⟨L1, L2, L3, L4, L5⟩ := lfs_e hK hlK he5 lf
        rw [er] at L1 L2 L3 L4
        obtain ⟨ci, f, g, o, e16, g50, g51, eg, ef⟩ := t1
        have g50s : (h1.set 50 (.inl (0, 3, .inl (upd f l (ctv e)))))[50]? = some (.inl (0, 3, .inl (upd f l (ctv e)))) := mx_gss (by rw [g50]; rfl)
        have c2 : CW (h1.set 50 (.inl (0, 3, .inl (upd f l (ctv e))))) v A := c1.s50
        have f2 : FD l h1 (h1.set 50 (.inl (0, 3, .inl (upd f l (ctv e))))) := FD.s1 (by omega)
        have mk2 := (f1.tr f2).mk hb (by omega) mk
        have s2 : MS (h1.set 50 (.inl (0, 3, .inl (upd f l (ctv e))))) (60 + 12 * l) := c2.2.2.2.2.2.2.2.2.2.2.2.2 l hl3
        rw [i121_73]
        simp only [i121_0, i121_2, i121_4, i121_7, i121_9, i121_10, i121_13, i121_13f0, i121_14, i121_17, i121_18, i121_18f, i121_19, i121_19f0, i121_20, i121_23, i121_26, i121_26f0, i121_27, i121_27f0, i121_28, i121_31, i121_32, i121_32f, i121_33, i121_36, i121_36f0, i121_37, i121_40, i121_41, i121_41f0, i121_42, i121_45, i121_46, i121_47, i121_50, i121_51, i121_51f0, i121_52, i121_55, i121_57, i121_58, i121_58f, i121_60, i121_63, i121_63f, i121_65, i121_65f0, i121_68, i121_70, i121_71, i121_75, i121_77, i121_80, i121_80f0, i121_82, i121_84, i121_84f, i121_85, i121_87, i121_87f0, i121_88, i121_91, i121_93, i121_95, i121_96, i121_96f0, i121_98, i121_98f0, i121_99, i121_102, i121_102f0, i121_104, i121_105, i121_107, i121_110, i121_110f0, i121_112, i121_113, i121_116, i121_116f0, i121_117, i121_117f0, i121_119, i121_120, i121_121, i121_123, i121_125, i121_126, i121_127, i121_130, i121_133, i121_136, hce, if_false, show mx_in (nI e) 5 = true from mx_inN he5 (by decide), nI_clamp (show e < 2 ^ 31 by omega), ctv_c he5, cof_gk o, cof_gv o, ar_ik g50, ar_is g50, mx_inN hl3 (show 3 < 2 ^ 31 by decide), nI_clamp (show l < 2 ^ 31 by omega), s2.co, true_and, and_true, eq_self, true_or, or_true, bi_01, mx_nl_i, mx_nl_r, mx_nl_n, mx_nl_f, mx_nl_d]
        refine k_become (by omega) (by omega) (by omega) hns hnb mk2 s2 (fun h3 mk3 f3 => ?_)
        simp only [i121_0, i121_2, i121_4, i121_7, i121_9, i121_10, i121_13, i121_13f0, i121_14, i121_17, i121_18, i121_18f, i121_19, i121_19f0, i121_20, i121_23, i121_26, i121_26f0, i121_27, i121_27f0, i121_28, i121_31, i121_32, i121_32f, i121_33, i121_36, i121_36f0, i121_37, i121_40, i121_41, i121_41f0, i121_42, i121_45, i121_46, i121_47, i121_50, i121_51, i121_51f0, i121_52, i121_55, i121_57, i121_58, i121_58f, i121_60, i121_63, i121_63f, i121_65, i121_65f0, i121_68, i121_70, i121_71, i121_75, i121_77, i121_80, i121_80f0, i121_82, i121_84, i121_84f, i121_85, i121_87, i121_87f0, i121_88, i121_91, i121_93, i121_95, i121_96, i121_96f0, i121_98, i121_98f0, i121_99, i121_102, i121_102f0, i121_104, i121_105, i121_107, i121_110, i121_110f0, i121_112, i121_113, i121_116, i121_116f0, i121_117, i121_117f0, i121_119, i121_120, i121_121, i121_123, i121_125, i121_126, i121_127, i121_130, i121_133, i121_136, mk3.co, Option.toList_some, Option.toList_none, List.nil_append, List.cons_append, true_and, and_true, eq_self, true_or, or_true, bi_01, mx_nl_i, mx_nl_r, mx_nl_n, mx_nl_f, mx_nl_d]
        have dd := dst_di (s := s) (n := N) (K := K) (r := lo) md di (by omega) l
        refine k_cut (by omega) hns hs dd.1 mk3 (fun h4 mk4 f4 => ?_)
        simp only [i121_0, i121_2, i121_4, i121_7, i121_9, i121_10, i121_13, i121_13f0, i121_14, i121_17, i121_18, i121_18f, i121_19, i121_19f0, i121_20, i121_23, i121_26, i121_26f0, i121_27, i121_27f0, i121_28, i121_31, i121_32, i121_32f, i121_33, i121_36, i121_36f0, i121_37, i121_40, i121_41, i121_41f0, i121_42, i121_45, i121_46, i121_47, i121_50, i121_51, i121_51f0, i121_52, i121_55, i121_57, i121_58, i121_58f, i121_60, i121_63, i121_63f, i121_65, i121_65f0, i121_68, i121_70, i121_71, i121_75, i121_77, i121_80, i121_80f0, i121_82, i121_84, i121_84f, i121_85, i121_87, i121_87f0, i121_88, i121_91, i121_93, i121_95, i121_96, i121_96f0, i121_98, i121_98f0, i121_99, i121_102, i121_102f0, i121_104, i121_105, i121_107, i121_110, i121_110f0, i121_112, i121_113, i121_116, i121_116f0, i121_117, i121_117f0, i121_119, i121_120, i121_121, i121_123, i121_125, i121_126, i121_127, i121_130, i121_133, i121_136, mk4.co, Option.toList_some, Option.toList_none, List.nil_append, List.cons_append, true_and, and_true, eq_self, true_or, or_true, bi_01, mx_nl_i, mx_nl_r, mx_nl_n, mx_nl_f, mx_nl_d]
        refine k_goBy (by omega) (dd.2.up (by omega)) (dd.1.u6 (by omega) (cut_pos _ _)) (by omega) mk4 (fun h5 mk5 f5 => ?_)
        have f25 : FX (60 + 12 * l) (60 + 12 * l + 12) (h1.set 50 (.inl (0, 3, .inl (upd f l (ctv e))))) h5 := f3.tr (f4.tr f5)
        have o5 : h5[0]? = some (.inr (11, cof ci)) := by rw [f25.2.1 0 (by omega) (by omega), List.getElem?_set_ne (by decide)]; exact o
        have g505 : h5[50]? = some (.inl (0, 3, .inl (upd f l (ctv e)))) := by rw [f25.2.1 50 (by omega) (by omega)]; exact g50s
        have g515 : h5[51]? = some (.inl (0, 3, .inl g)) := by rw [f25.2.1 51 (by omega) (by omega), List.getElem?_set_ne (by decide)]; exact g51
        have c5 : CW h5 v A := c2.ct (i := l) hl3 (f25.wd (by omega)) mk5.ss
        have fd5 : FD l h1 h5 := f2.tr (FD.fx f25 (by omega))
        have ed : dst A s N K (lo + e * 5 ^ r) (l + 1) = gon (G_ (A 0)) (upd (dst A s N K lo l) (20 + 8 * s + 6) (cut_ (dst A s N K lo l (20 + 8 * s + 6)) (ctv e))) (nsA A) (nbA A) N := by
          show fw_ A (upd (dst A s N K (lo + e * 5 ^ r) l) (20 + 8 * s + 6) (cut_ (dst A s N K (lo + e * 5 ^ r) l (20 + 8 * s + 6)) (ctv (dg_ (lo + e * 5 ^ r) (K - 1 - l))))) N = _
          rw [L2, dst_cg l L3]
          rfl
        rw [← ed] at mk5
        have t5 : TCI h5 A s N K (l + 1) (lo + e * 5 ^ r) (lo + e * 5 ^ r) := by
          refine ⟨ci, _, g, o5, e16, g505, g515, eg, fun i hi => ?_⟩
          by_cases ei : i = l
          · subst ei; rw [pk_us, L2]
          · rw [pk_un ei, L3 i (by omega)]; exact ef i (by omega)
        simp only [i121_0, i121_2, i121_4, i121_7, i121_9, i121_10, i121_13, i121_13f0, i121_14, i121_17, i121_18, i121_18f, i121_19, i121_19f0, i121_20, i121_23, i121_26, i121_26f0, i121_27, i121_27f0, i121_28, i121_31, i121_32, i121_32f, i121_33, i121_36, i121_36f0, i121_37, i121_40, i121_41, i121_41f0, i121_42, i121_45, i121_46, i121_47, i121_50, i121_51, i121_51f0, i121_52, i121_55, i121_57, i121_58, i121_58f, i121_60, i121_63, i121_63f, i121_65, i121_65f0, i121_68, i121_70, i121_71, i121_75, i121_77, i121_80, i121_80f0, i121_82, i121_84, i121_84f, i121_85, i121_87, i121_87f0, i121_88, i121_91, i121_93, i121_95, i121_96, i121_96f0, i121_98, i121_98f0, i121_99, i121_102, i121_102f0, i121_104, i121_105, i121_107, i121_110, i121_110f0, i121_112, i121_113, i121_116, i121_116f0, i121_117, i121_117f0, i121_119, i121_120, i121_121, i121_123, i121_125, i121_126, i121_127, i121_130, i121_133, i121_136, ob_co o5, x1, Option.toList_some, Option.toList_none, List.nil_append, List.cons_append, true_and, and_true, eq_self, true_or, or_true, bi_01, mx_nl_i, mx_nl_r, mx_nl_n, mx_nl_f, mx_nl_d]
        refine ih (l + 1) (lo + e * 5 ^ r) (60 + 12 * l) (D + 7) h5 _ (by omega) (by omega) L1 c5 t5 mk5 (by omega) (fun h6 c6 t6 f6 => ?_)
        simp only [i121_0, i121_2, i121_4, i121_7, i121_9, i121_10, i121_13, i121_13f0, i121_14, i121_17, i121_18, i121_18f, i121_19, i121_19f0, i121_20, i121_23, i121_26, i121_26f0, i121_27, i121_27f0, i121_28, i121_31, i121_32, i121_32f, i121_33, i121_36, i121_36f0, i121_37, i121_40, i121_41, i121_41f0, i121_42, i121_45, i121_46, i121_47, i121_50, i121_51, i121_51f0, i121_52, i121_55, i121_57, i121_58, i121_58f, i121_60, i121_63, i121_63f, i121_65, i121_65f0, i121_68, i121_70, i121_71, i121_75, i121_77, i121_80, i121_80f0, i121_82, i121_84, i121_84f, i121_85, i121_87, i121_87f0, i121_88, i121_91, i121_93, i121_95, i121_96, i121_96f0, i121_98, i121_98f0, i121_99, i121_102, i121_102f0, i121_104, i121_105, i121_107, i121_110, i121_110f0, i121_112, i121_113, i121_116, i121_116f0, i121_117, i121_117f0, i121_119, i121_120, i121_121, i121_123, i121_125, i121_126, i121_127, i121_130, i121_133, i121_136, nI_1, Option.toList_some, Option.toList_none, List.nil_append, List.cons_append, true_and, and_true, eq_self, true_or, or_true, bi_01, mx_nl_i, mx_nl_r, mx_nl_n, mx_nl_f, mx_nl_d]
        refine ihm (e + 1) h6 _ (by omega) c6 ?_ (f1.tr (fd5.tr f6.up))
        rw [L4] at t6
        obtain ⟨ci6, f6', g6, o6, e166, g506, g516, eg6, ef6⟩ := t6
        exact ⟨ci6, f6', g6, o6, e166, g506, g516, eg6, fun i hi => by rw [ef6 i (by omega), L3 i hi]⟩
    obtain ⟨ci, f, g, o, e16, g50, g51, eg, ef⟩ := id t
    obtain ⟨_, ⟨cf, g49, e49⟩, _⟩ := c.2.2.2.2.2.2.2.2
    simp only [i121_0, i121_2, i121_4, i121_7, i121_9, i121_10, i121_13, i121_13f0, i121_14, i121_17, i121_18, i121_18f, i121_19, i121_19f0, i121_20, i121_23, i121_26, i121_26f0, i121_27, i121_27f0, i121_28, i121_31, i121_32, i121_32f, i121_33, i121_36, i121_36f0, i121_37, i121_40, i121_41, i121_41f0, i121_42, i121_45, i121_46, i121_47, i121_50, i121_51, i121_51f0, i121_52, i121_55, i121_57, i121_58, i121_58f, i121_60, i121_63, i121_63f, i121_65, i121_65f0, i121_68, i121_70, i121_71, i121_75, i121_77, i121_80, i121_80f0, i121_82, i121_84, i121_84f, i121_85, i121_87, i121_87f0, i121_88, i121_91, i121_93, i121_95, i121_96, i121_96f0, i121_98, i121_98f0, i121_99, i121_102, i121_102f0, i121_104, i121_105, i121_107, i121_110, i121_110f0, i121_112, i121_113, i121_116, i121_116f0, i121_117, i121_117f0, i121_119, i121_120, i121_121, i121_123, i121_125, i121_126, i121_127, i121_130, i121_133, i121_136, i121_e, i121_67f, hc1, hc2, if_true, if_false, cof_gk o, cof_gv o, rr_rk g49, rr_ra g49, mx_inN hl3 (show 3 < 2 ^ 31 by decide), nI_clamp (show l < 2 ^ 31 by omega), e49 l hl3, mxv_s, show (mx_cmp 5).isSome = true from rfl, Bool.and_self, true_and, and_true, eq_self, true_or, or_true, bi_01, mx_nl_i, mx_nl_r, mx_nl_n, mx_nl_f, mx_nl_d]
    exact loop 5 0 h _ (by omega) c (by rw [Nat.zero_mul, Nat.add_zero]; exact t) (FD.rf h)
set_option maxHeartbeats 1000000 in
theorem q_down (c : CW h v A) (ok : OK v A) {a n k i : Int32} (kk : KC h (sp_down v A a n k i) Q) : ev_ X (d + 12) 92 [.ref 0, .int a, .int n, .int k, .int i] h Q := by
  have cw := c
  obtain ⟨⟨ci, o, z3, z8, z7⟩, c1, c2, c3, c4, c5, c6, ⟨ef, g36, e36⟩, c8⟩ := c
  have md := MD.ab ok.1.1
  have di : DI (A 0) := ⟨ok.1.2.2.2.2.2.2.1, ok.1.2.2.2.2.2.2.2.1⟩
  obtain ⟨mi, mr, mt, ms, r, q, mx⟩ := c1
  replace q : MR (A 0) mi mr (nsA A) (nbA A) := q
  replace mx : MX h (A 0) (G_ (A 0)) mt ms (nsA A) := mx
  have mk : MK h 1 (A 0) (G_ (A 0)) (nsA A) (nbA A) := ⟨mi, mr, mt, ms, r, q, mx⟩
  obtain ⟨hns, hnb, e1, e2, e3⟩ := id md
  have q7 : mi 7 = A 0 1 := by rw [e1]; exact q.1.2.2.2.2.1
  have q12 : mi 12 = A 0 2 := by rw [e2]; exact q.1.2.2.2.2.2
  unfold sp_down at kk
  by_cases hc : (0 ≤ a ∧ a ≤ A 0 1 - 1) ∧ (1 ≤ n ∧ n ≤ 9) ∧ (2 ≤ k ∧ k ≤ 3) ∧ ((-1) ≤ i ∧ i ≤ k - 1)
  case neg =>
    rw [if_neg hc] at kk
    have hf := kk.er cw (by decide) (by decide) g36
    by_cases c1 : (0 ≤ a ∧ a ≤ A 0 1 - 1) <;> by_cases c2 : (1 ≤ n ∧ n ≤ 9) <;> by_cases c3 : (2 ≤ k ∧ k ≤ 3) <;> by_cases c4 : ((-1) ≤ i ∧ i ≤ k - 1)
    · exact False.elim (hc ⟨c1, c2, c3, c4⟩)
    all_goals simp only [i92_0, i92_1, i92_2, i92_5, i92_8, i92_9, i92_10, i92_12, i92_15, i92_18, i92_19, i92_20, i92_21, i92_24, i92_27, i92_29, i92_30, i92_31, i92_32, i92_33, i92_36, i92_39, i92_40, i92_43, i92_44, i92_46, i92_48, i92_51, i92_52, i92_53, i92_56, i92_57, i92_58, i92_60, i92_63, i92_64, i92_65, i92_68, i92_69, i92_70, i92_71, i92_72, i92_75, i92_77, i92_80, i92_81, i92_84, i92_87, i92_88, i92_91, i92_93, i92_94, i92_e, cof_gk o, cof_gv o, ob_co o, k_in, k_isSheet, k_isUse, k_isAhead, bi_eq0, decide_true, decide_false, and_self, if_true, if_false, reduceCtorEq, not_true_eq_false, not_false_eq_true, mx_t0, Option.toList_some, Option.toList_none, List.nil_append, List.cons_append, true_and, and_true, eq_self, true_or, or_true, bi_01, mx_nl_i, mx_nl_r, mx_nl_n, mx_nl_f, mx_nl_d, kof_gk r.o, kof_gv r.o, ob_co r.o, k_isSeller o r q7, k_isSort o r q12, k_e1 o g36, k_e2 o g36, k_e3 o g36, k_e4 o g36, k_e5 o g36, c1, c2, c3, c4]
    all_goals exact hf
  rw [if_pos hc] at kk
  obtain ⟨d1, d2, d3, d4⟩ := hc
  have o1 : (h.set 0 (.inr (11, cof (upd ci 16 (-100000000)))))[0]? = some (.inr (11, cof (upd ci 16 (-100000000)))) := mx_gss (by rw [o]; rfl)
  simp only [i92_0, i92_1, i92_2, i92_5, i92_8, i92_9, i92_10, i92_12, i92_15, i92_18, i92_19, i92_20, i92_21, i92_24, i92_27, i92_29, i92_30, i92_31, i92_32, i92_33, i92_36, i92_39, i92_40, i92_43, i92_44, i92_46, i92_48, i92_51, i92_52, i92_53, i92_56, i92_57, i92_58, i92_60, i92_63, i92_64, i92_65, i92_68, i92_69, i92_70, i92_71, i92_72, i92_75, i92_77, i92_80, i92_81, i92_84, i92_87, i92_88, i92_91, i92_93, i92_94, i92_e, cof_gk o, cof_gv o, ob_co o, k_in, k_isSheet, k_isUse, k_isAhead, bi_eq0, decide_true, decide_false, and_self, if_true, if_false, reduceCtorEq, not_true_eq_false, not_false_eq_true, mx_t0, Option.toList_some, Option.toList_none, List.nil_append, List.cons_append, true_and, and_true, eq_self, true_or, or_true, bi_01, mx_nl_i, mx_nl_r, mx_nl_n, mx_nl_f, mx_nl_d, kof_gk r.o, kof_gv r.o, ob_co r.o, k_isSeller o r q7, k_isSort o r q12, d1, d2, d3, d4, show ¬ ((1 : Int32) = 0) from by decide, cof_pk16 o, cof_pf16 o, cof_gk o1, cof_gv o1, ob_co o1]
  rw [e1] at d1
  obtain ⟨s, hs, rfl⟩ := nI_sel (by omega) d1
  obtain ⟨N, hN, rfl⟩ := nI_rng (k := 9) (by decide) ⟨Int32.le_trans (by decide) d2.1, d2.2⟩
  obtain ⟨K, hK, rfl⟩ := nI_rng (k := 3) (by decide) ⟨Int32.le_trans (by decide) d3.1, d3.2⟩
  have hN1 : 1 ≤ N := (nI_leI (a := 1) (by decide) (by omega)).mp d2.1
  have hK2 : K = 2 ∨ K = 3 := by
    have : 2 ≤ K := (nI_leI (a := 2) (by decide) (by omega)).mp d3.1
    omega
  rw [nI_clamp (show s < 2 ^ 31 by omega), nI_clamp (show N < 2 ^ 31 by omega), nI_clamp (show K < 2 ^ 31 by omega)] at kk
  have cw1 : CW (h.set 0 (.inr (11, cof (upd ci 16 (-100000000))))) v A := cw.s0 o
  have fd1 : FD 0 h (h.set 0 (.inr (11, cof (upd ci 16 (-100000000))))) := FD.s1 (by omega)
  obtain ⟨_, _, ⟨f50, g50⟩, ⟨f51, g51⟩, _⟩ := c8
  have dR5 : dR K = 5 ^ K := by
    unfold dR
    rcases hK2 with rfl | rfl
    · rfl
    · rfl
  refine k_cuts (A := A) (v := v) hs hN1 hN hK2 ok K 0 0 1 (d + 11) _ _ (by omega) (by omega) ⟨Nat.zero_mod _, by rw [Nat.zero_add, Nat.sub_zero]; exact Nat.le_refl _⟩ cw1 ⟨_, f50, f51, o1, by rw [pk_us]; rfl, by rw [List.getElem?_set_ne (by decide)]; exact g50, by rw [List.getElem?_set_ne (by decide)]; exact g51, fun z => by omega, fun i hi => by omega⟩ (fd1.mk (Or.inl rfl) (by omega) mk) (Or.inl rfl) (fun h2 cw2 t2 f2 => ?_)
  rw [Nat.zero_add, ← dR5] at t2
  obtain ⟨ci2, f2', g2, o2, e162, g502, g512, eg2, _⟩ := t2
  have fd := fd1.tr f2
  have ft : FT h h2 := ⟨by rw [fd.1]; exact Nat.le_refl _, by rw [fd.1]; exact Nat.le_add_right _ _, fun j h1 h2 => fd.2.1 j h2 (by omega) (by omega) (by omega) (by omega)⟩
  by_cases im : i = -1
  · rw [if_pos im, ← e162] at kk
    simp only [i92_0, i92_1, i92_2, i92_5, i92_8, i92_9, i92_10, i92_12, i92_15, i92_18, i92_19, i92_20, i92_21, i92_24, i92_27, i92_29, i92_30, i92_31, i92_32, i92_33, i92_36, i92_39, i92_40, i92_43, i92_44, i92_46, i92_48, i92_51, i92_52, i92_53, i92_56, i92_57, i92_58, i92_60, i92_63, i92_64, i92_65, i92_68, i92_69, i92_70, i92_71, i92_72, i92_75, i92_77, i92_80, i92_81, i92_84, i92_87, i92_88, i92_91, i92_93, i92_94, i92_e, im, show ¬ ((0 : Int32) ≤ -1) from by decide, if_false, cof_gk o2, cof_gv o2, Option.toList_some, Option.toList_none, List.nil_append, List.cons_append, true_and, and_true, eq_self, true_or, or_true, bi_01, mx_nl_i, mx_nl_r, mx_nl_n, mx_nl_f, mx_nl_d]
    exact kk h2 cw2 ft
  · have i0 : 0 ≤ i := by
      have := d4.1
      rw [Int32.le_iff_toInt_le] at this ⊢
      have e1 : (-1 : Int32).toInt = -1 := by decide
      have e2 : (0 : Int32).toInt = 0 := by decide
      have e3 : i.toInt ≠ -1 := fun z => im (Int32.toInt_inj.mp (by rw [z, e1]))
      omega
    obtain ⟨I, hI, rfl⟩ := nI_sel (n := K) (by omega) ⟨i0, d4.2⟩
    rw [if_neg im, nI_clamp (show I < 2 ^ 31 by omega), ← eg2 (by rw [dR5]; exact Nat.pos_of_ne_zero (by rcases hK2 with rfl | rfl <;> decide)) I hI] at kk
    simp only [i92_0, i92_1, i92_2, i92_5, i92_8, i92_9, i92_10, i92_12, i92_15, i92_18, i92_19, i92_20, i92_21, i92_24, i92_27, i92_29, i92_30, i92_31, i92_32, i92_33, i92_36, i92_39, i92_40, i92_43, i92_44, i92_46, i92_48, i92_51, i92_52, i92_53, i92_56, i92_57, i92_58, i92_60, i92_63, i92_64, i92_65, i92_68, i92_69, i92_70, i92_71, i92_72, i92_75, i92_77, i92_80, i92_81, i92_84, i92_87, i92_88, i92_91, i92_93, i92_94, i92_e, i0, if_true, cof_gk o2, cof_gv o2, ar_ik g512, ar_ia g512, mx_inN (show I < 3 by omega) (show 3 < 2 ^ 31 by decide), nI_clamp (show I < 2 ^ 31 by omega), Option.toList_some, Option.toList_none, List.nil_append, List.cons_append, true_and, and_true, eq_self, true_or, or_true, bi_01, mx_nl_i, mx_nl_r, mx_nl_n, mx_nl_f, mx_nl_d]
    exact kk h2 cw2 ft
end KT1
