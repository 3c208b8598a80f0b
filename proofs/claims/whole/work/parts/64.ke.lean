/-! what days keep -/
def DI (m : Nat → Int32) : Prop := (∀ s, s < 6 → NI (m (20 + 8 * s + 0)) 6 ∧ NI (m (20 + 8 * s + 3)) 9 ∧ NI (m (20 + 8 * s + 4)) 99 ∧ (m (20 + 8 * s + 6) = -1 ∨ 0 ≤ m (20 + 8 * s + 6))) ∧ (∀ b, b < 8 → NI (m (70 + 4 * b + 0)) 9 ∧ NI (m (70 + 4 * b + 3)) 99)
theorem hd_99 (x : Int32) : NI (hd_ x 0 99) 99 := by
  unfold hd_
  by_cases c1 : x < 0
  · rw [if_pos c1]; exact ⟨0, by decide, rfl⟩
  · rw [if_neg c1]
    by_cases c2 : 99 < x
    · rw [if_pos c2]; exact ⟨99, by decide, rfl⟩
    · rw [if_neg c2]
      exact nI_rng (k := 99) (by decide) ⟨Int32.not_lt.mp c1, Int32.not_lt.mp c2⟩
theorem hd_999 (x : Int32) : 0 ≤ hd_ x 0 999 := by
  unfold hd_
  by_cases c1 : x < 0
  · rw [if_pos c1]; decide
  · rw [if_neg c1]
    split
    · decide
    · exact Int32.not_lt.mp c1
theorem as_pos (G : MXGf) (m : Nat → Int32) (s : Nat) : 0 ≤ as_ G m s := by
  unfold as_
  by_cases c : an_ m s = true ∨ my_ G m s (hd_ (wd_ m s) 0 999) = true
  · rw [if_pos c]; exact hd_999 _
  · rw [if_neg c]
    apply Int32.not_lt.mp
    intro h
    apply c
    right
    unfold my_
    simp [h]
section GD
variable {G : MXGf} {m : Nat → Int32} {ns nb s b : Nat}
theorem gs1_s6 : 0 ≤ gs1 G m s (20 + 8 * s + 6) := by unfold gs1; rw [pk_us]; exact as_pos _ _ _
theorem gs1_n {j : Nat} (h4 : j ≠ 20 + 8 * s + 4) (h5 : j ≠ 20 + 8 * s + 5) (h6 : j ≠ 20 + 8 * s + 6) : gs1 G m s j = m j := by unfold gs1 ea_; rw [pk_un h6, pk_un h5, pk_un h4]
theorem gs1_4 : gs1 G m s (20 + 8 * s + 4) = hd_ (m (20 + 8 * s + 4) + m (20 + 8 * s + 3)) 0 99 := by unfold gs1 ea_; rw [pk_un (by omega), pk_un (by omega), pk_us]
theorem DI.gs1 (hs : s < 6) (d : DI m) : DI (gs1 G m s) := by
  refine ⟨fun t ht => ?_, fun b hb => ?_⟩
  · obtain ⟨a1, a2, a3, a4⟩ := d.1 t ht
    rw [gs1_n (j := 20 + 8 * t + 0) (by omega) (by omega) (by omega), gs1_n (j := 20 + 8 * t + 3) (by omega) (by omega) (by omega)]
    by_cases e : t = s
    · subst e
      rw [gs1_4]
      exact ⟨a1, a2, hd_99 _, Or.inr gs1_s6⟩
    · rw [gs1_n (j := 20 + 8 * t + 4) (by omega) (by omega) (by omega), gs1_n (j := 20 + 8 * t + 6) (by omega) (by omega) (by omega)]
      exact ⟨a1, a2, a3, a4⟩
  · rw [gs1_at hs (by omega), gs1_at hs (by omega)]; exact d.2 b hb
theorem DI.gsl (d : DI m) : ∀ n, n ≤ 6 → DI (gsl G m n)
  | 0, _ => d
  | n + 1, h => (DI.gsl d n (by omega)).gs1 (by omega)
theorem gsl_pos : ∀ n, n ≤ 6 → ∀ s, s < n → 0 ≤ gsl G m n (20 + 8 * s + 6)
  | 0, _, s, hs => by omega
  | n + 1, h, s, hs => by
    show 0 ≤ gs1 G (gsl G m n) n (20 + 8 * s + 6)
    by_cases e : s = n
    · subst e; exact gs1_s6
    · rw [gs1_n (by omega) (by omega) (by omega)]; exact gsl_pos n (by omega) s (by omega)
theorem b1_ni {f th : Int32} (hst : NI (m (20 + 8 * s + 4)) 99) (hth : NI th 108) : (∀ j, j ≠ 20 + 8 * s + 4 → j ≠ 20 + 8 * s + 5 → (b1_ G m s b f th).1 j = m j) ∧ NI ((b1_ G m s b f th).1 (20 + 8 * s + 4)) 99 ∧ NI (b1_ G m s b f th).2 108 := by
  unfold b1_
  split
  · exact ⟨fun _ _ _ => rfl, hst, hth⟩
  · obtain ⟨a, ha, e⟩ := hst
    obtain ⟨t, ht, e2⟩ := hth
    have eb : (if m (20 + 8 * s + 4) ≤ th then m (20 + 8 * s + 4) else th) = nI (min a t) := by
      rw [e, e2]
      by_cases c : a ≤ t
      · rw [if_pos ((nI_leI (by omega) (by omega)).mpr c), Nat.min_eq_left c]
      · rw [if_neg (fun q => c ((nI_leI (by omega) (by omega)).mp q)), Nat.min_eq_right (by omega)]
    simp only [eb]
    refine ⟨fun j h4 h5 => ?_, ?_, ?_⟩
    · unfold ea_; rw [pk_un h5, pk_un h4]
    · unfold ea_; rw [pk_un (by omega), pk_us, e, pk_sub (by omega)]; exact ⟨_, by omega, rfl⟩
    · rw [e2, pk_sub (by omega)]; exact ⟨_, by omega, rfl⟩
theorem gl_ni {f : Int32} (hns : ns ≤ 6) : ∀ (n : Nat) (m wa : Nat → Int32) (th : Int32), (∀ s, s < 6 → NI (m (20 + 8 * s + 4)) 99) → NI th 108 → (∀ s, s < 6 → NI ((gl_ G ns b f n m wa th).1 (20 + 8 * s + 4)) 99) ∧ NI (gl_ G ns b f n m wa th).2 108
  | 0, m, wa, th, h1, h2 => ⟨h1, h2⟩
  | n + 1, m, wa, th, h1, h2 => by
    unfold gl_
    split
    · exact ⟨h1, h2⟩
    · rename_i hc
      rcases ch_in m wa ns hns with he | ⟨s, hs, he, -⟩
      · exact absurd (Or.inl (by rw [he]; decide)) hc
      · rw [he, nI_clamp (by omega)]
        have q := b1_ni (G := G) (b := b) (f := f) (h1 s (by omega)) h2
        refine gl_ni hns n _ _ _ (fun t ht => ?_) q.2.2
        by_cases e : t = s
        · subst e; exact q.2.1
        · rw [q.1 _ (by omega) (by omega)]; exact h1 t ht
theorem DI.go (d : DI m) (hns : ns ≤ 6) (hb : b < 8) : DI (go_ G m ns b) := by
  obtain ⟨x, hx, e0⟩ := (d.2 b hb).1
  obtain ⟨y, hy, e3⟩ := (d.2 b hb).2
  have q := gl_ni (G := G) (b := b) (f := fe_ m b) hns 6 m (fun _ => 0) (m (70 + 4 * b + 3) + m (70 + 4 * b + 0)) (fun s hs => (d.1 s hs).2.2.1) ⟨y + x, by omega, by rw [e0, e3, nI_add]⟩
  refine ⟨fun s hs => ?_, fun c hc => ?_⟩
  · obtain ⟨a1, a2, a3, a4⟩ := d.1 s hs
    rw [go_at hns (by omega) (by omega), go_at hns (by omega) (by omega), go_at (j := 20 + 8 * s + 6) hns (by omega) (by omega)]
    refine ⟨a1, a2, ?_, a4⟩
    unfold go_
    rw [pk_un (by omega)]
    exact q.1 s hs
  · rw [go_at hns (by omega) (by omega)]
    refine ⟨(d.2 c hc).1, ?_⟩
    by_cases e : c = b
    · subst e
      unfold go_
      rw [pk_us]
      split
      · exact ⟨0, by omega, rfl⟩
      · exact hd_99 _
    · rw [go_at hns (by omega) (by omega)]; exact (d.2 c hc).2
theorem DI.gbl (d : DI m) (hns : ns ≤ 6) : ∀ n, n ≤ 8 → DI (gbl G m ns n)
  | 0, _ => d
  | n + 1, h => (DI.gbl d hns n (by omega)).go hns (by omega)
theorem DI.up0 {x : Int32} (d : DI m) : DI (upd m 0 x) := by
  refine ⟨fun s hs => ?_, fun c hc => ?_⟩
  · rw [pk_un (by omega), pk_un (by omega), pk_un (by omega), pk_un (by omega)]; exact d.1 s hs
  · rw [pk_un (by omega), pk_un (by omega)]; exact d.2 c hc
theorem DI.by (d : DI m) (hns : ns ≤ 6) (hnb : nb ≤ 8) : DI (by_ G m ns nb) := ((d.gsl ns hns).gbl hns nb hnb).up0
theorem DI.gon (d : DI m) (hns : ns ≤ 6) (hnb : nb ≤ 8) : ∀ n, DI (gon G m ns nb n)
  | 0 => d
  | n + 1 => (DI.gon d hns hnb n).by hns hnb
end GD
theorem b1_oth {G : MXGf} {m : Nat → Int32} {s b j : Nat} {f th : Int32} (h4 : j ≠ 20 + 8 * s + 4) (h5 : j ≠ 20 + 8 * s + 5) : (b1_ G m s b f th).1 j = m j := by
  unfold b1_
  split
  · rfl
  · show ea_ _ s _ j = _
    unfold ea_; rw [pk_un h5, pk_un h4]
/-! an order of the sellers by prices, of like ones by numbers -/
def RK (f : Nat → Int32) (sl : Nat → Int32) (n : Nat) (rk : Nat → Nat) : Prop := (∀ q, q < n → f q = nI (rk q) ∧ rk q < n) ∧ (∀ s, s < n → ∃ q, q < n ∧ rk q = s) ∧ (∀ p q, p < q → q < n → sl (rk p) < sl (rk q) ∨ (sl (rk p) = sl (rk q) ∧ rk p < rk q))
theorem RK.ins {f f' sl : Nat → Int32} {n at' : Nat} {rk : Nat → Nat} (r : RK f sl n rk) (ha : at' ≤ n) (lo : ∀ q, q < at' → sl (rk q) ≤ sl n) (hi : ∀ q, at' ≤ q → q < n → sl n < sl (rk q)) (h1 : ∀ q, q < at' → f' q = f q) (h2 : f' at' = nI n) (h3 : ∀ q, at' < q → q ≤ n → f' q = f (q - 1)) : RK f' sl (n + 1) (fun q => if q < at' then rk q else if q = at' then n else rk (q - 1)) := by
  refine ⟨fun q hq => ?_, fun s hs => ?_, fun p q hpq hq => ?_⟩
  · by_cases c1 : q < at'
    · simp only [if_pos c1]
      have := r.1 q (by omega)
      exact ⟨by rw [h1 q c1]; exact this.1, by omega⟩
    · simp only [if_neg c1]
      by_cases c2 : q = at'
      · simp only [if_pos c2]
        exact ⟨by rw [c2]; exact h2, by omega⟩
      · simp only [if_neg c2]
        have := r.1 (q - 1) (by omega)
        exact ⟨by rw [h3 q (by omega) (by omega)]; exact this.1, by omega⟩
  · by_cases c1 : s = n
    · refine ⟨at', by omega, ?_⟩
      simp only [if_neg (Nat.lt_irrefl at'), if_true]
      exact c1.symm
    · obtain ⟨q, hq, e⟩ := r.2.1 s (by omega)
      by_cases c2 : q < at'
      · exact ⟨q, by omega, by simp only [if_pos c2]; exact e⟩
      · refine ⟨q + 1, by omega, ?_⟩
        simp only [if_neg (show ¬ q + 1 < at' by omega), if_neg (show ¬ q + 1 = at' by omega), Nat.add_sub_cancel]
        exact e
  · by_cases c1 : q < at'
    · simp only [if_pos c1, if_pos (show p < at' by omega)]
      exact r.2.2 p q hpq (by omega)
    · simp only [if_neg c1]
      by_cases c2 : q = at'
      · simp only [if_pos c2, if_pos (show p < at' by omega)]
        have l := lo p (by omega)
        have b := (r.1 p (by omega)).2
        rcases Int32.lt_or_eq_of_le l with l | l
        · exact Or.inl l
        · exact Or.inr ⟨l, b⟩
      · simp only [if_neg c2]
        by_cases c3 : p < at'
        · simp only [if_pos c3]
          exact r.2.2 p (q - 1) (by omega) (by omega)
        · simp only [if_neg c3]
          by_cases c4 : p = at'
          · simp only [if_pos c4]
            exact Or.inl (hi (q - 1) (by omega) (by omega))
          · simp only [if_neg c4]
            exact r.2.2 (p - 1) (q - 1) (by omega) (by omega)
/-! a walk by that order is a walk from the cheapest to the next -/
def el_ (m wa : Nat → Int32) (s : Nat) : Prop := wa s = 0 ∧ 0 < m (20 + 8 * s + 4) ∧ 0 ≤ m (20 + 8 * s + 6)
theorem ch_min (m wa : Nat → Int32) : ∀ n, n ≤ 6 → ∀ s, s < n → el_ m wa s → ∃ c, c < n ∧ ch_ m wa n = nI c ∧ el_ m wa c ∧ (m (20 + 8 * c + 6) < m (20 + 8 * s + 6) ∨ (m (20 + 8 * c + 6) = m (20 + 8 * s + 6) ∧ c ≤ s))
  | 0, _, s, hs, _ => by omega
  | n + 1, hn, s, hs, he => by
    have hin := ch_in m wa n (by omega)
    by_cases c : wa n = 0 ∧ 0 < m (20 + 8 * n + 4) ∧ 0 ≤ m (20 + 8 * n + 6) ∧ (ch_ m wa n < 0 ∨ m (20 + 8 * n + 6) < m (20 + 8 * (ch_ m wa n).toNatClampNeg + 6))
    · have e : ch_ m wa (n + 1) = nI n := by unfold ch_; rw [if_pos c]
      refine ⟨n, by omega, e, ⟨c.1, c.2.1, c.2.2.1⟩, ?_⟩
      by_cases e2 : s = n
      · subst e2; exact Or.inr ⟨rfl, Nat.le_refl s⟩
      · obtain ⟨c0, h1, h2, h3, h4⟩ := ch_min m wa n (by omega) s (by omega) he
        have c4 := c.2.2.2
        rw [h2, nI_clamp (by omega)] at c4
        have c5 := c4.resolve_left (nI_pos (by omega))
        left
        rcases h4 with h4 | ⟨h4, _⟩
        · exact Int32.lt_trans c5 h4
        · rw [← h4]; exact c5
    · have e : ch_ m wa (n + 1) = ch_ m wa n := by
        conv => lhs; unfold ch_
        rw [if_neg c]
      rw [e]
      by_cases e2 : s = n
      · subst e2
        rcases hin with h | ⟨c0, h1, h2, h3⟩
        · exact absurd ⟨he.1, he.2.1, he.2.2, Or.inl (by rw [h]; decide)⟩ c
        · refine ⟨c0, by omega, h2, h3, ?_⟩
          have c5 : ¬ m (20 + 8 * s + 6) < m (20 + 8 * c0 + 6) := fun q => c ⟨he.1, he.2.1, he.2.2, Or.inr (by rw [h2, nI_clamp (by omega)]; exact q)⟩
          rcases Int32.lt_or_eq_of_le (Int32.not_lt.mp c5) with l | l
          · exact Or.inl l
          · exact Or.inr ⟨l, by omega⟩
      · obtain ⟨c0, h1, h2, h3, h4⟩ := ch_min m wa n (by omega) s (by omega) he
        exact ⟨c0, by omega, h2, h3, h4⟩
def sv_ (G : MXGf) (rk : Nat → Nat) (b : Nat) (f : Int32) : Nat → Nat → (Nat → Int32) → Int32 → (Nat → Int32) × Int32
  | 0, _, m, th => (m, th)
  | n + 1, r, m, th => if th ≤ 0 then (m, th) else if 0 < m (20 + 8 * rk r + 4) ∧ ¬ G 1 (m (20 + 8 * rk r + 6)) f (m (70 + 4 * b + 2)) (m 0) = 0 then sv_ G rk b f n (r + 1) (b1_ G m (rk r) b f th).1 (b1_ G m (rk r) b f th).2 else sv_ G rk b f n (r + 1) m th
theorem sv_gl {G : MXGf} {ns b : Nat} {f : Int32} {rk : Nat → Nat} {ff : Nat → Int32} (hns : ns ≤ 6) : ∀ (n r : Nat) (m wa : Nat → Int32) (th : Int32) (k : Nat), r + n = ns → RK ff (fun s => m (20 + 8 * s + 6)) ns rk → (∀ s, s < ns → 0 ≤ m (20 + 8 * s + 6)) → (∀ q, q < r → ¬ wa (rk q) = 0 ∨ ¬ 0 < m (20 + 8 * rk q + 4)) → (∀ q, r ≤ q → q < ns → wa (rk q) = 0) → cz wa ≤ k → sv_ G rk b f n r m th = gl_ G ns b f k m wa th := by
  intro n
  induction n with
  | zero =>
    intro r m wa th k hr R sl h1 h2 hk
    have hch : ch_ m wa ns = -1 := by
      rcases ch_in m wa ns hns with h | ⟨s, hs, e, w0, w1, w2⟩
      · exact h
      · obtain ⟨q, hq, e⟩ := R.2.1 s hs
        have := h1 q (by omega)
        rw [e] at this
        rcases this with t | t
        · exact absurd w0 t
        · exact absurd w1 t
    cases k with
    | zero => rfl
    | succ k =>
      unfold sv_ gl_
      rw [hch, if_pos (Or.inl (by decide))]
  | succ n ih =>
    intro r m wa th k hr R sl h1 h2 hk
    have hlt : r < ns := by omega
    have hrk := (R.1 r hlt).2
    have inj : ∀ q, q < ns → q ≠ r → rk q ≠ rk r := by
      intro q hq hne he
      rcases Nat.lt_or_gt_of_ne hne with l | l
      · rcases R.2.2 q r l hlt with a | a
        · rw [he] at a; exact Int32.lt_irrefl a
        · rw [he] at a; exact Nat.lt_irrefl _ a.2
      · rcases R.2.2 r q l hq with a | a
        · rw [he] at a; exact Int32.lt_irrefl a
        · rw [he] at a; exact Nat.lt_irrefl _ a.2
    by_cases hth : th ≤ 0
    · cases k with
      | zero => unfold sv_ gl_; rw [if_pos hth]
      | succ k => unfold sv_ gl_; rw [if_pos hth, if_pos (Or.inr hth)]
    · by_cases hst : 0 < m (20 + 8 * rk r + 4)
      · have w0 := h2 r (Nat.le_refl r) hlt
        have el : el_ m wa (rk r) := ⟨w0, hst, sl _ hrk⟩
        have hch : ch_ m wa ns = nI (rk r) := by
          obtain ⟨c, c1, c2, c3, c4⟩ := ch_min m wa ns hns (rk r) hrk el
          obtain ⟨q, hq, e⟩ := R.2.1 c c1
          have hqr : r ≤ q := by
            apply Nat.le_of_not_lt
            intro l
            rcases h1 q l with t | t
            · rw [e] at t; exact t c3.1
            · rw [e] at t; exact t c3.2.1
          by_cases e2 : q = r
          · rw [c2, ← e, e2]
          · exfalso
            have o := R.2.2 r q (by omega) hq
            rw [e] at o
            rcases o with o | ⟨o, o2⟩
            · rcases c4 with c4 | ⟨c4, _⟩
              · exact Int32.lt_irrefl (Int32.lt_trans o c4)
              · simp only at o; rw [c4] at o; exact Int32.lt_irrefl o
            · rcases c4 with c4 | ⟨c4, c5⟩
              · simp only at o; rw [o] at c4; exact Int32.lt_irrefl c4
              · omega
        obtain ⟨k, rfl⟩ : ∃ k', k = k' + 1 := by
          cases k with
          | zero => exact absurd w0 (cz_0 (by omega) (by omega))
          | succ k => exact ⟨k, rfl⟩
        have hcz : cz (upd wa (rk r) 1) ≤ k := by have := cz_up (s := rk r) (by omega) w0; omega
        have hneg : ¬ (nI (rk r) : Int32) < 0 := nI_pos (by omega)
        conv => rhs; unfold gl_
        rw [hch, if_neg (fun q => q.elim hneg hth), nI_clamp (by omega)]
        unfold sv_
        rw [if_neg hth]
        have w1 : ∀ q, q < r + 1 → ¬ upd wa (rk r) 1 (rk q) = 0 ∨ ¬ 0 < (b1_ G m (rk r) b f th).1 (20 + 8 * rk q + 4) := by
          intro q hq
          by_cases e : q = r
          · left; rw [e, pk_us]; decide
          · have i := inj q (by omega) e
            have kp := b1_oth (G := G) (m := m) (b := b) (f := f) (th := th) (s := rk r) (j := 20 + 8 * rk q + 4) (by omega) (by omega)
            rw [pk_un i, kp]
            exact h1 q (by omega)
        have w2 : ∀ q, r + 1 ≤ q → q < ns → upd wa (rk r) 1 (rk q) = 0 := by
          intro q h3 h4
          rw [pk_un (inj q h4 (by omega))]
          exact h2 q (by omega) h4
        have sle : ∀ s, (b1_ G m (rk r) b f th).1 (20 + 8 * s + 6) = m (20 + 8 * s + 6) := fun s => b1_oth (by omega) (by omega)
        by_cases hg : G 1 (m (20 + 8 * rk r + 6)) f (m (70 + 4 * b + 2)) (m 0) = 0
        · rw [if_neg (fun q => q.2 hg)]
          have eb : b1_ G m (rk r) b f th = (m, th) := by unfold b1_; rw [if_pos hg]
          rw [eb] at w1 ⊢
          exact ih (r + 1) m _ th k (by omega) R sl w1 w2 hcz
        · rw [if_pos ⟨hst, hg⟩]
          refine ih (r + 1) _ _ _ k (by omega) ?_ ?_ w1 w2 hcz
          · simp only [sle]; exact R
          · intro s hs; rw [sle]; exact sl s hs
      · unfold sv_
        rw [if_neg hth, if_neg (fun q => hst q.1)]
        refine ih (r + 1) m wa th k (by omega) R sl (fun q hq => ?_) (fun q h3 h4 => h2 q (by omega) h4) hk
        by_cases e : q = r
        · right; rw [e]; exact hst
        · exact h1 q (by omega)
theorem go_sv {G : MXGf} {m : Nat → Int32} {ns b : Nat} {rk : Nat → Nat} {ff : Nat → Int32} (hns : ns ≤ 6) (R : RK ff (fun s => m (20 + 8 * s + 6)) ns rk) (sl : ∀ s, s < ns → 0 ≤ m (20 + 8 * s + 6)) :
    go_ G m ns b = upd (sv_ G rk b (fe_ m b) ns 0 m (m (70 + 4 * b + 3) + m (70 + 4 * b + 0))).1 (70 + 4 * b + 3) (if m (70 + 4 * b + 2) = 0 then 0 else hd_ (sv_ G rk b (fe_ m b) ns 0 m (m (70 + 4 * b + 3) + m (70 + 4 * b + 0))).2 0 99) := by
  rw [sv_gl hns ns 0 m (fun _ => 0) _ 6 (by omega) R sl (fun q hq => by omega) (fun _ _ _ => rfl) (by decide)]
  rfl
