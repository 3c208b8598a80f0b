/-! the component as a whole -/
def RO (h : MXH) (a n : Nat) (sz : Int32) (f : Nat → Int32) : Prop := h[a]? = some (.inr (5, wof (a + 1) sz)) ∧ ∃ g, h[a + 1]? = some (.inl (0, n, .inl g)) ∧ ∀ j, j < sz.toNatClampNeg → g j = f j
def RS (h : MXH) (a n : Nat) : Prop := ∃ sz g, h[a]? = some (.inr (5, wof (a + 1) sz)) ∧ h[a + 1]? = some (.inl (0, n, .inl g))
def SHT (h : MXH) (i : Nat) (y s : Int32) (f : Nat → Int32) : Prop := h[52 + 2 * i]? = some (.inr (7, hof (53 + 2 * i) y s)) ∧ ∃ g, h[53 + 2 * i]? = some (.inl (0, 40, .inl g)) ∧ ∀ j, j < 40 → g j = f j
def C0 (h : MXH) (z im kz : Int32) : Prop := ∃ ci, h[0]? = some (.inr (11, cof ci)) ∧ ci 3 = z ∧ ci 8 = im ∧ (¬ im = 0 → ci 7 = kz)
def C1 (h : MXH) (m : Nat → Int32) : Prop := MK h 1 m (G_ m) (m 1).toNatClampNeg (m 2).toNatClampNeg
def C2 (h : MXH) (m : Nat → Int32) : Prop := RO h 13 50 (m 9) (fun j => m (226 + j))
def C3 (h : MXH) (m : Nat → Int32) : Prop := RO h 15 20 (m 10) (fun j => m (106 + j))
def C4 (h : MXH) (im : Int32) (m : Nat → Int32) : Prop := MS h 17 ∧ RS h 29 50 ∧ RS h 31 20 ∧ (¬ im = 0 → MK h 17 m (G_ m) (m 1).toNatClampNeg (m 2).toNatClampNeg ∧ RO h 29 50 (m 9) (fun j => m (226 + j)) ∧ RO h 31 20 (m 10) (fun j => m (106 + j)))
def C5 (h : MXH) (n : Int32) (t : Nat → Int32) : Prop := RO h 33 40 n t
def C6 (h : MXH) (Y S N : Nat → Int32) : Prop := (∃ sf, h[35]? = some (.inl (4, 4, mx_rfs sf)) ∧ ∀ i, i < 4 → sf i = some (52 + 2 * i)) ∧ ∀ i, i < 4 → SHT h i (Y i) (S i) (fun j => N (40 * i + j))
def C7 (h : MXH) (E : Nat → Int32) : Prop := ∃ f, h[36]? = some (.inl (0, 6, .inl f)) ∧ ∀ j, 1 ≤ j → j < 6 → f j = E j
def C8 (h : MXH) : Prop := MS h 37 ∧ (∃ cf, h[49]? = some (.inl (5, 3, mx_rfs cf)) ∧ ∀ i, i < 3 → cf i = some (60 + 12 * i)) ∧ (∃ f, h[50]? = some (.inl (0, 3, .inl f))) ∧ (∃ f, h[51]? = some (.inl (0, 3, .inl f))) ∧ ∀ i, i < 3 → MS h (60 + 12 * i)
def CW (h : MXH) (v : Nat → Int32) (A : Nat → Nat → Int32) : Prop := C0 h (A 0 8) (v 3) (A 2 8) ∧ C1 h (A 0) ∧ C2 h (A 0) ∧ C3 h (A 0) ∧ C4 h (v 3) (A 2) ∧ C5 h (v 18) (A 9) ∧ C6 h (A 10) (A 11) (A 12) ∧ C7 h (A 3) ∧ C8 h
def FT (h h' : MXH) : Prop := h.length ≤ h'.length ∧ h'.length ≤ h.length + 5 ∧ ∀ j, 96 ≤ j → j < 111 → h'[j]? = h[j]?
def KC (h : MXH) (p : PR) (Q : MXP) : Prop := ∀ h', CW h' p.2.1 p.2.2 → FT h h' → Q (some (.int p.1)) h'
section FXC
variable {h h' : MXH} {lo hi : Nat}
theorem RO.fx {a n : Nat} {sz : Int32} {f : Nat → Int32} (r : RO h a n sz f) (x : FX lo hi h h') (ha : a + 1 < 111) (e : hi ≤ lo ∨ hi ≤ a ∨ a + 2 ≤ lo) : RO h' a n sz f := by
  obtain ⟨h1, g, h2, h3⟩ := r
  exact ⟨by rw [x.2.1 a (by omega) (by omega)]; exact h1, g, by rw [x.2.1 _ (by omega) (by omega)]; exact h2, h3⟩
theorem RS.fx {a n : Nat} (r : RS h a n) (x : FX lo hi h h') (ha : a + 1 < 111) (e : hi ≤ lo ∨ hi ≤ a ∨ a + 2 ≤ lo) : RS h' a n := by
  obtain ⟨sz, g, h1, h2⟩ := r
  exact ⟨sz, g, by rw [x.2.1 a (by omega) (by omega)]; exact h1, by rw [x.2.1 _ (by omega) (by omega)]; exact h2⟩
theorem RO.rs {a n : Nat} {sz : Int32} {f : Nat → Int32} (r : RO h a n sz f) : RS h a n := by
  obtain ⟨h1, g, h2, h3⟩ := r
  exact ⟨sz, g, h1, h2⟩
theorem C0.fx {z im kz : Int32} (r : C0 h z im kz) (x : FX lo hi h h') (e : hi ≤ lo ∨ 1 ≤ lo) : C0 h' z im kz := by
  obtain ⟨ci, h1, h2⟩ := r
  exact ⟨ci, by rw [x.2.1 0 (by omega) (by omega)]; exact h1, h2⟩
theorem C1.fx {m : Nat → Int32} (r : C1 h m) (x : FX lo hi h h') (e : hi ≤ lo ∨ hi ≤ 1 ∨ 13 ≤ lo) : C1 h' m := MK.fx r x (by omega) (by omega)
theorem C2.fx {m : Nat → Int32} (r : C2 h m) (x : FX lo hi h h') (e : hi ≤ lo ∨ hi ≤ 13 ∨ 15 ≤ lo) : C2 h' m := RO.fx r x (by omega) (by omega)
theorem C3.fx {m : Nat → Int32} (r : C3 h m) (x : FX lo hi h h') (e : hi ≤ lo ∨ hi ≤ 15 ∨ 17 ≤ lo) : C3 h' m := RO.fx r x (by omega) (by omega)
theorem C4.fx {im : Int32} {m : Nat → Int32} (r : C4 h im m) (x : FX lo hi h h') (e : hi ≤ lo ∨ hi ≤ 17 ∨ 33 ≤ lo) : C4 h' im m := by
  obtain ⟨h1, h2, h3, h4⟩ := r
  refine ⟨h1.fx x (by omega) (by omega), h2.fx x (by omega) (by omega), h3.fx x (by omega) (by omega), fun q => ?_⟩
  obtain ⟨a, b, c⟩ := h4 q
  exact ⟨a.fx x (by omega) (by omega), b.fx x (by omega) (by omega), c.fx x (by omega) (by omega)⟩
theorem C5.fx {n : Int32} {t : Nat → Int32} (r : C5 h n t) (x : FX lo hi h h') (e : hi ≤ lo ∨ hi ≤ 33 ∨ 35 ≤ lo) : C5 h' n t := RO.fx r x (by omega) (by omega)
theorem SHT.fx {i : Nat} {y s : Int32} {f : Nat → Int32} (r : SHT h i y s f) (hi4 : i < 4) (x : FX lo hi h h') (e : hi ≤ lo ∨ hi ≤ 52 + 2 * i ∨ 54 + 2 * i ≤ lo) : SHT h' i y s f := by
  obtain ⟨h1, g, h2, h3⟩ := r
  exact ⟨by rw [x.2.1 _ (by omega) (by omega)]; exact h1, g, by rw [x.2.1 _ (by omega) (by omega)]; exact h2, h3⟩
theorem C6.fx {Y S N : Nat → Int32} (r : C6 h Y S N) (x : FX lo hi h h') (e : hi ≤ lo ∨ ((hi ≤ 35 ∨ 36 ≤ lo) ∧ (hi ≤ 52 ∨ 60 ≤ lo))) : C6 h' Y S N := by
  obtain ⟨⟨sf, h1, h2⟩, h3⟩ := r
  exact ⟨⟨sf, by rw [x.2.1 35 (by omega) (by omega)]; exact h1, h2⟩, fun i hi => (h3 i hi).fx hi x (by omega)⟩
theorem C7.fx {E : Nat → Int32} (r : C7 h E) (x : FX lo hi h h') (e : hi ≤ lo ∨ hi ≤ 36 ∨ 37 ≤ lo) : C7 h' E := by
  obtain ⟨f, h1, h2⟩ := r
  exact ⟨f, by rw [x.2.1 36 (by omega) (by omega)]; exact h1, h2⟩
theorem C8.fx (r : C8 h) (x : FX lo hi h h') (e : hi ≤ lo ∨ ((hi ≤ 37 ∨ 52 ≤ lo) ∧ (hi ≤ 60 ∨ 96 ≤ lo))) : C8 h' := by
  obtain ⟨h1, ⟨cf, h2, h3⟩, ⟨f, h4⟩, ⟨g, h5⟩, h6⟩ := r
  exact ⟨h1.fx x (by omega) (by omega), ⟨cf, by rw [x.2.1 49 (by omega) (by omega)]; exact h2, h3⟩, ⟨f, by rw [x.2.1 50 (by omega) (by omega)]; exact h4⟩, ⟨g, by rw [x.2.1 51 (by omega) (by omega)]; exact h5⟩, fun i hi => (h6 i hi).fx x (by omega) (by omega)⟩
theorem FX.ft (x : FX lo hi h h') (e : hi ≤ lo ∨ hi ≤ 96) : FT h h' := ⟨by rw [x.1]; exact Nat.le_refl _, by rw [x.1]; exact Nat.le_add_right _ _, fun j h1 h2 => x.2.1 j h2 (by omega)⟩
variable {v : Nat → Int32} {A : Nat → Nat → Int32} {Q : MXP}
theorem CW.fx (c : CW h v A) (x : FX 0 0 h h') : CW h' v A := by
  obtain ⟨c0, c1, c2, c3, c4, c5, c6, c7, c8⟩ := c
  exact ⟨c0.fx x (by omega), c1.fx x (by omega), c2.fx x (by omega), c3.fx x (by omega), c4.fx x (by omega), c5.fx x (by omega), c6.fx x (by omega), c7.fx x (by omega), c8.fx x (by omega)⟩
/-- the market alone has changed -/
theorem CW.mk {m : Nat → Int32} (c : CW h v A) (x : FX 1 13 h h') (c1' : C1 h' m) (e8 : m 8 = A 0 8) (e9 : m 9 = A 0 9) (e10 : m 10 = A 0 10) (e1 : ∀ j, j < 20 → m (106 + j) = A 0 (106 + j)) (e2 : ∀ j, j < 50 → m (226 + j) = A 0 (226 + j)) (ok : OK v A) : CW h' v (up2 A 0 m) := by
  obtain ⟨c0, c1, c2, c3, c4, c5, c6, c7, c8⟩ := c
  obtain ⟨t9, h9, q9⟩ := ok.1.2.2.2.2.1
  obtain ⟨t10, h10, q10⟩ := ok.1.2.2.2.2.2.1
  have c2' := c2.fx x (by omega)
  have c3' := c3.fx x (by omega)
  refine ⟨?_, ?_, ?_, ?_, c4.fx x (by omega), c5.fx x (by omega), c6.fx x (by omega), c7.fx x (by omega), c8.fx x (by omega)⟩
  · rw [up2_s, e8]; exact c0.fx x (by omega)
  · rw [up2_s]; exact c1'
  · rw [up2_s]
    obtain ⟨a, g, b, e⟩ := c2'
    refine ⟨by rw [e9]; exact a, g, b, fun j hj => ?_⟩
    rw [e9] at hj
    have hj2 := hj
    rw [q9, nI_clamp (by omega)] at hj2
    show g j = m (226 + j)
    rw [e j hj, e2 j (by omega)]
  · rw [up2_s]
    obtain ⟨a, g, b, e⟩ := c3'
    refine ⟨by rw [e10]; exact a, g, b, fun j hj => ?_⟩
    rw [e10] at hj
    have hj2 := hj
    rw [q10, nI_clamp (by omega)] at hj2
    show g j = m (106 + j)
    rw [e j hj, e1 j (by omega)]
theorem KC.same {x : Int32} (k : KC h (x, v, A) Q) (c : CW h v A) : Q (some (.int x)) h := k h c ⟨Nat.le_refl _, Nat.le_add_right _ _, fun _ _ _ => rfl⟩
theorem KC.fx0 {x : Int32} (k : KC h (x, v, A) Q) (c : CW h v A) (f : FX 0 0 h h') : Q (some (.int x)) h' := k h' (c.fx f) (f.ft (by omega))
theorem KC.mk {x : Int32} {m : Nat → Int32} (k : KC h (x, v, up2 A 0 m) Q) (c : CW h v A) (f : FX 1 13 h h') (c1' : C1 h' m) (e8 : m 8 = A 0 8) (e9 : m 9 = A 0 9) (e10 : m 10 = A 0 10) (e1 : ∀ j, j < 20 → m (106 + j) = A 0 (106 + j)) (e2 : ∀ j, j < 50 → m (226 + j) = A 0 (226 + j)) (ok : OK v A) : Q (some (.int x)) h' := k h' (c.mk f c1' e8 e9 e10 e1 e2 ok) (f.ft (by omega))
/-- the scratch market alone has changed -/
theorem CW.sc (c : CW h v A) (f : FX 37 49 h h') (s : MS h' 37) : CW h' v A := by
  obtain ⟨c0, c1, c2, c3, c4, c5, c6, c7, c8⟩ := c
  obtain ⟨h1, ⟨cf, h2, h3⟩, ⟨g, h4⟩, ⟨g2, h5⟩, h6⟩ := c8
  exact ⟨c0.fx f (by omega), c1.fx f (by omega), c2.fx f (by omega), c3.fx f (by omega), c4.fx f (by omega), c5.fx f (by omega), c6.fx f (by omega), c7.fx f (by omega), s, ⟨cf, by rw [f.2.1 49 (by omega) (by omega)]; exact h2, h3⟩, ⟨g, by rw [f.2.1 50 (by omega) (by omega)]; exact h4⟩, ⟨g2, by rw [f.2.1 51 (by omega) (by omega)]; exact h5⟩, fun i hi => (h6 i hi).fx f (by omega) (by omega)⟩
theorem KC.sc {x : Int32} (k : KC h (x, v, A) Q) (c : CW h v A) (f : FX 37 49 h h') (s : MS h' 37) : Q (some (.int x)) h' := k h' (c.sc f s) (f.ft (by omega))
theorem KC.er {k : Nat} {f : Nat → Int32} (q : KC h (er_ v A k) Q) (c : CW h v A) (hk : 1 ≤ k) (hk6 : k < 6) (g : h[36]? = some (.inl (0, 6, .inl f))) : Q (some (.int (-1000000000 - nI k))) (h.set 36 (.inl (0, 6, .inl (upd f k (f k + 1))))) := by
  have x : FX 36 37 h (h.set 36 (.inl (0, 6, .inl (upd f k (f k + 1))))) := FX.set (by omega) (by omega) (by omega)
  obtain ⟨c0, c1, c2, c3, c4, c5, c6, ⟨f', c7, e7⟩, c8⟩ := c
  have ef : f' = f := by rw [c7] at g; injection g with g; injection g with g; injection g with _ g; injection g with _ g; injection g
  subst ef
  refine q _ ⟨c0.fx x (by omega), c1.fx x (by omega), c2.fx x (by omega), c3.fx x (by omega), c4.fx x (by omega), c5.fx x (by omega), c6.fx x (by omega), ⟨_, mx_gss (by rw [g]; rfl), fun j h1 h2 => ?_⟩, c8.fx x (by omega)⟩ (x.ft (by omega))
  show upd f' k (f' k + 1) j = up2 A 3 (upd (A 3) k (A 3 k + 1)) 3 j
  rw [up2_s]
  by_cases e : j = k
  · subst e; rw [pk_us, pk_us, e7 j h1 h2]
  · rw [pk_un e, pk_un e]; exact e7 j h1 h2
end FXC
section KJ
variable {X : MXX} {d : Nat} {h : MXH} {Q : MXP} {ci : Nat → Int32} {f : Nat → Int32}
theorem k_e1 (o : h[0]? = some (.inr (11, cof ci))) (g : h[36]? = some (.inl (0, 6, .inl f))) : ev_ X d 106 [.ref 0, .int 1] h Q = Q (some (.int (-1000000000 - nI 1))) (h.set 36 (.inl (0, 6, .inl (upd f 1 (f 1 + 1))))) := by
  simp only [i106_0, i106_1, i106_4, i106_5, i106_6, i106_7, i106_8, i106_9, i106_10, i106_13, i106_14, i106_15, i106_e, cof_gk o, cof_gv o, ar_ik g, ar_ia g, ar_is g, show mx_in 1 6 = true from by decide, show (1 : Int32).toNatClampNeg = 1 from by decide, true_and, and_true, eq_self, true_or, or_true, bi_01, mx_nl_i, mx_nl_r, mx_nl_n, mx_nl_f, mx_nl_d]; rfl
theorem k_e2 (o : h[0]? = some (.inr (11, cof ci))) (g : h[36]? = some (.inl (0, 6, .inl f))) : ev_ X d 106 [.ref 0, .int 2] h Q = Q (some (.int (-1000000000 - nI 2))) (h.set 36 (.inl (0, 6, .inl (upd f 2 (f 2 + 1))))) := by
  simp only [i106_0, i106_1, i106_4, i106_5, i106_6, i106_7, i106_8, i106_9, i106_10, i106_13, i106_14, i106_15, i106_e, cof_gk o, cof_gv o, ar_ik g, ar_ia g, ar_is g, show mx_in 2 6 = true from by decide, show (2 : Int32).toNatClampNeg = 2 from by decide, true_and, and_true, eq_self, true_or, or_true, bi_01, mx_nl_i, mx_nl_r, mx_nl_n, mx_nl_f, mx_nl_d]; rfl
theorem k_e3 (o : h[0]? = some (.inr (11, cof ci))) (g : h[36]? = some (.inl (0, 6, .inl f))) : ev_ X d 106 [.ref 0, .int 3] h Q = Q (some (.int (-1000000000 - nI 3))) (h.set 36 (.inl (0, 6, .inl (upd f 3 (f 3 + 1))))) := by
  simp only [i106_0, i106_1, i106_4, i106_5, i106_6, i106_7, i106_8, i106_9, i106_10, i106_13, i106_14, i106_15, i106_e, cof_gk o, cof_gv o, ar_ik g, ar_ia g, ar_is g, show mx_in 3 6 = true from by decide, show (3 : Int32).toNatClampNeg = 3 from by decide, true_and, and_true, eq_self, true_or, or_true, bi_01, mx_nl_i, mx_nl_r, mx_nl_n, mx_nl_f, mx_nl_d]; rfl
theorem k_e4 (o : h[0]? = some (.inr (11, cof ci))) (g : h[36]? = some (.inl (0, 6, .inl f))) : ev_ X d 106 [.ref 0, .int 4] h Q = Q (some (.int (-1000000000 - nI 4))) (h.set 36 (.inl (0, 6, .inl (upd f 4 (f 4 + 1))))) := by
  simp only [i106_0, i106_1, i106_4, i106_5, i106_6, i106_7, i106_8, i106_9, i106_10, i106_13, i106_14, i106_15, i106_e, cof_gk o, cof_gv o, ar_ik g, ar_ia g, ar_is g, show mx_in 4 6 = true from by decide, show (4 : Int32).toNatClampNeg = 4 from by decide, true_and, and_true, eq_self, true_or, or_true, bi_01, mx_nl_i, mx_nl_r, mx_nl_n, mx_nl_f, mx_nl_d]; rfl
theorem k_e5 (o : h[0]? = some (.inr (11, cof ci))) (g : h[36]? = some (.inl (0, 6, .inl f))) : ev_ X d 106 [.ref 0, .int 5] h Q = Q (some (.int (-1000000000 - nI 5))) (h.set 36 (.inl (0, 6, .inl (upd f 5 (f 5 + 1))))) := by
  simp only [i106_0, i106_1, i106_4, i106_5, i106_6, i106_7, i106_8, i106_9, i106_10, i106_13, i106_14, i106_15, i106_e, cof_gk o, cof_gv o, ar_ik g, ar_ia g, ar_is g, show mx_in 5 6 = true from by decide, show (5 : Int32).toNatClampNeg = 5 from by decide, true_and, and_true, eq_self, true_or, or_true, bi_01, mx_nl_i, mx_nl_r, mx_nl_n, mx_nl_f, mx_nl_d]; rfl
theorem k_in {v lo hi : Int32} : ev_ X d 107 [.int v, .int lo, .int hi] h Q = Q (some (.int (bi_ (decide (lo ≤ v ∧ v ≤ hi))))) h := by
  by_cases c1 : v < lo
  · simp only [i107_0, i107_1, i107_2, i107_5, i107_6, i107_7, i107_10, i107_11, i107_14, i107_e, i107_15 mx_01a, i107_15 mx_01b, c1, if_true, show ¬ (lo ≤ v ∧ v ≤ hi) from fun q => Int32.not_lt.mpr q.1 c1, decide_false]; rfl
  · by_cases c2 : hi < v
    · simp only [i107_0, i107_1, i107_2, i107_5, i107_6, i107_7, i107_10, i107_11, i107_14, i107_e, i107_15 mx_01a, i107_15 mx_01b, c1, c2, if_true, if_false, show ¬ (lo ≤ v ∧ v ≤ hi) from fun q => Int32.not_lt.mpr q.2 c2, decide_false]; rfl
    · simp only [i107_0, i107_1, i107_2, i107_5, i107_6, i107_7, i107_10, i107_11, i107_14, i107_e, i107_15 mx_01a, i107_15 mx_01b, c1, c2, if_false, show (lo ≤ v ∧ v ≤ hi) from ⟨Int32.not_lt.mp c1, Int32.not_lt.mp c2⟩, decide_true]; rfl
theorem k_isSheet {x : Int32} : ev_ X (d + 1) 110 [.int x] h Q = Q (some (.int (bi_ (decide (0 ≤ x ∧ x ≤ 3))))) h := by
  simp only [i110_0, i110_1, i110_2, i110_3, i110_6, i110_e, k_in, Option.toList_some, Option.toList_none, List.nil_append, List.cons_append, bi_01]
theorem k_isUse {x : Int32} : ev_ X (d + 1) 111 [.int x] h Q = Q (some (.int (bi_ (decide (0 ≤ x ∧ x ≤ 1))))) h := by
  simp only [i111_0, i111_1, i111_2, i111_3, i111_6, i111_e, k_in, Option.toList_some, Option.toList_none, List.nil_append, List.cons_append, bi_01]
theorem k_isAhead {x : Int32} : ev_ X (d + 1) 112 [.int x] h Q = Q (some (.int (bi_ (decide (0 ≤ x ∧ x ≤ 60))))) h := by
  simp only [i112_0, i112_1, i112_2, i112_4, i112_7, i112_e, k_in, Option.toList_some, Option.toList_none, List.nil_append, List.cons_append, bi_01]
variable {mi : Nat → Int32} {mr : Nat → Nat → Int32} {mt ms : Nat → Option Nat}
theorem k_isSeller {y : Int32} (o : h[0]? = some (.inr (11, cof ci))) (r : KM h 1 mi mr mt ms) (e : mi 7 = y) {x : Int32} : ev_ X (d + 1) 108 [.ref 0, .int x] h Q = Q (some (.int (bi_ (decide (0 ≤ x ∧ x ≤ y - 1))))) h := by
  simp only [i108_0, i108_1, i108_2, i108_3, i108_6, i108_9, i108_10, i108_11, i108_14, i108_e, cof_gk o, cof_gv o, kof_gk r.o, kof_gv r.o, e, k_in, Option.toList_some, Option.toList_none, List.nil_append, List.cons_append, true_and, and_true, eq_self, true_or, or_true, bi_01, mx_nl_i, mx_nl_r, mx_nl_n, mx_nl_f, mx_nl_d]
theorem k_isSort {y : Int32} (o : h[0]? = some (.inr (11, cof ci))) (r : KM h 1 mi mr mt ms) (e : mi 12 = y) {x : Int32} : ev_ X (d + 1) 109 [.ref 0, .int x] h Q = Q (some (.int (bi_ (decide (0 ≤ x ∧ x ≤ y - 1))))) h := by
  simp only [i109_0, i109_1, i109_2, i109_3, i109_6, i109_9, i109_10, i109_11, i109_14, i109_e, cof_gk o, cof_gv o, kof_gk r.o, kof_gv r.o, e, k_in, Option.toList_some, Option.toList_none, List.nil_append, List.cons_append, true_and, and_true, eq_self, true_or, or_true, bi_01, mx_nl_i, mx_nl_r, mx_nl_n, mx_nl_f, mx_nl_d]
theorem k_fitsSort {x y z : Int32} : ev_ X (d + 1) 114 [.int x, .int y, .int z] h Q = Q (some (.int (bi_ (decide ((0 ≤ x ∧ x ≤ 9) ∧ (0 ≤ y ∧ y ≤ 999) ∧ (0 ≤ z ∧ z ≤ 9)))))) h := by
  by_cases c1 : (0 ≤ x ∧ x ≤ 9) <;> by_cases c2 : (0 ≤ y ∧ y ≤ 999) <;> by_cases c3 : (0 ≤ z ∧ z ≤ 9) <;>
    simp only [i114_0, i114_1, i114_2, i114_4, i114_7, i114_10, i114_11, i114_12, i114_15, i114_18, i114_21, i114_22, i114_23, i114_25, i114_28, i114_31, i114_32, i114_35, i114_36, i114_e, true_and, and_true, eq_self, true_or, or_true, bi_01, mx_nl_i, mx_nl_r, mx_nl_n, mx_nl_f, mx_nl_d, k_in, Option.toList_some, Option.toList_none, List.nil_append, List.cons_append, c1, c2, c3, bi_eq0, decide_true, decide_false, and_self, if_true, if_false, reduceCtorEq, and_false, false_and]
  all_goals rfl
end KJ
