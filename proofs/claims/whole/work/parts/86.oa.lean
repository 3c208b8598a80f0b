/-! what the calls keep: texts -/
def dr (c : Nat → Int32) (n : Nat) : Nat → Nat → Nat
  | 0, t => t
  | k + 1, t => if c (n + k) < 20000 then dr c n k t + 1 else if c (n + k) = 20033 then dr c n k t else dr c n k t - 1
theorem dr_add {c : Nat → Int32} {n k1 t : Nat} : ∀ k2, dr c n (k1 + k2) t = dr c (n + k1) k2 (dr c n k1 t)
  | 0 => rfl
  | k2 + 1 => by
    show (if c (n + (k1 + k2)) < 20000 then dr c n (k1 + k2) t + 1 else if c (n + (k1 + k2)) = 20033 then dr c n (k1 + k2) t else dr c n (k1 + k2) t - 1) = (if c (n + k1 + k2) < 20000 then dr c (n + k1) k2 (dr c n k1 t) + 1 else if c (n + k1 + k2) = 20033 then dr c (n + k1) k2 (dr c n k1 t) else dr c (n + k1) k2 (dr c n k1 t) - 1)
    rw [dr_add k2, Nat.add_assoc]
theorem dr_cg {c c' : Nat → Int32} {n t : Nat} : ∀ k, (∀ j, n ≤ j → j < n + k → c' j = c j) → dr c' n k t = dr c n k t
  | 0, _ => rfl
  | k + 1, h => by
    show (if c' (n + k) < 20000 then dr c' n k t + 1 else if c' (n + k) = 20033 then dr c' n k t else dr c' n k t - 1) = (if c (n + k) < 20000 then dr c n k t + 1 else if c (n + k) = 20033 then dr c n k t else dr c n k t - 1)
    rw [dr_cg k (fun j h1 h2 => h j h1 (by omega)), h (n + k) (by omega) (by omega)]
theorem dp_dr {c : Nat → Int32} : ∀ j, dp_ c j = dr c 0 j 0
  | 0 => rfl
  | j + 1 => by
    show (if c j < 20000 then dp_ c j + 1 else if c j = 20033 then dp_ c j else dp_ c j - 1) = (if c (0 + j) < 20000 then dr c 0 j 0 + 1 else if c (0 + j) = 20033 then dr c 0 j 0 else dr c 0 j 0 - 1)
    rw [dp_dr j, Nat.zero_add]
def WKS (c : Nat → Int32) (n n' : Nat) : Prop := n < n' ∧ ∀ t, t + (n' - n) ≤ 60 → (∀ k, k < n' - n → wk_ (c (n + k)) (dr c n k t)) ∧ dr c n (n' - n) t = t + 1
section WK
variable {c c' : Nat → Int32} {n n' n1 n2 : Nat}
theorem WKS.cg (s : WKS c n n') (h : ∀ j, n ≤ j → j < n' → c' j = c j) : WKS c' n n' := by
  have h1 := s.1
  refine ⟨h1, fun t ht => ?_⟩
  obtain ⟨a, b⟩ := s.2 t ht
  refine ⟨fun k hk => ?_, ?_⟩
  · rw [dr_cg k (fun j h2 h3 => h j h2 (by omega)), h _ (by omega) (by omega)]; exact a k hk
  · rw [dr_cg _ (fun j h2 h3 => h j h2 (by omega))]; exact b
theorem wks_push (h : c n < 20000) (h2 : c n < 10000 ∨ mx_in (c n - 10000) 4 = true) : WKS c n (n + 1) := by
  refine ⟨by omega, fun t ht => ⟨fun k hk => ?_, ?_⟩⟩
  · have e : k = 0 := by omega
    subst e
    exact Or.inl ⟨h, by show t < 60; omega, h2⟩
  · rw [Nat.add_sub_cancel_left]
    show (if c (n + 0) < 20000 then t + 1 else _) = _
    rw [Nat.add_zero, if_pos h]
theorem wks_not (s : WKS c n n') (h : c n' = 20033) : WKS c n (n' + 1) := by
  have h1 := s.1
  refine ⟨by omega, fun t ht => ?_⟩
  obtain ⟨a, b⟩ := s.2 t (by omega)
  refine ⟨fun k hk => ?_, ?_⟩
  · by_cases e : k < n' - n
    · exact a k e
    · have e2 : k = n' - n := by omega
      subst e2
      rw [show n + (n' - n) = n' by omega, b]
      exact Or.inr (Or.inl ⟨h, by omega, by omega⟩)
  · rw [show n' + 1 - n = (n' - n) + 1 by omega]
    show (if c (n + (n' - n)) < 20000 then _ else if c (n + (n' - n)) = 20033 then dr c n (n' - n) t else _) = _
    rw [show n + (n' - n) = n' by omega, h, if_neg (by decide), if_pos rfl, b]
theorem wks_bin {p : Int32} (s1 : WKS c n n1) (s2 : WKS c n1 n2) (h : c n2 = 20000 + p) (k1 : ¬ (20000 + p : Int32) < 20000) (k2 : ¬ (20000 + p : Int32) = 20033) : WKS c n (n2 + 1) := by
  have h1 := s1.1
  have h2 := s2.1
  refine ⟨by omega, fun t ht => ?_⟩
  obtain ⟨a, b⟩ := s1.2 t (by omega)
  obtain ⟨a2, b2⟩ := s2.2 (t + 1) (by omega)
  have e2 : ∀ k, dr c n ((n1 - n) + k) t = dr c n1 k (t + 1) := fun k => by rw [dr_add, b, show n + (n1 - n) = n1 by omega]
  refine ⟨fun k hk => ?_, ?_⟩
  · by_cases e : k < n1 - n
    · exact a k e
    · obtain ⟨k', rfl⟩ : ∃ k', k = (n1 - n) + k' := ⟨k - (n1 - n), by omega⟩
      rw [e2, show n + (n1 - n + k') = n1 + k' by omega]
      by_cases e3 : k' < n2 - n1
      · exact a2 k' e3
      · have e4 : k' = n2 - n1 := by omega
        subst e4
        rw [b2, show n1 + (n2 - n1) = n2 by omega, h]
        exact Or.inr (Or.inr ⟨k1, k2, by omega, by omega⟩)
  · rw [show n2 + 1 - n = (n1 - n) + (n2 - n1) + 1 by omega]
    show (if c (n + (n1 - n + (n2 - n1))) < 20000 then _ else if c (n + (n1 - n + (n2 - n1))) = 20033 then _ else dr c n (n1 - n + (n2 - n1)) t - 1) = _
    rw [show n + (n1 - n + (n2 - n1)) = n2 by omega, h, if_neg k1, if_neg k2, e2, b2]
    omega
end WK
theorem rd_wks {T : Nat → Int32} {N : Nat} {lw : Bool} (ht : ∀ j, j < N → ∃ q, q < 256 ∧ T j = nI q) : ∀ f,
    (∀ w op a c n a' c' n', rd T N lw f w op a c n = some (true, a', c', n') → w ≤ 5 → a ≤ N → WKS c' n n') ∧
    (∀ lv op a c n a' c' n', rd T N lw f (6 + lv) op a c n = some (true, a', c', n') → lv < 5 → a ≤ N → ∀ n0, WKS c n0 n → WKS c' n0 n') := by
  intro f
  induction f with
  | zero => exact ⟨(fun w op a c n a' c' n' hh => by cases hh), (fun lv op a c n a' c' n' hh => by cases hh)⟩
  | succ f ih =>
    obtain ⟨ih1, ih2⟩ := ih
    refine ⟨?_, ?_⟩
    · intro w op a c n a' c' n' hh hw ha
      unfold rd at hh
      by_cases k1 : w < 5
      · rw [if_pos k1] at hh
        rcases mtc_c hh with ⟨a1, c1, n1, e1, e2⟩ | ⟨a1, c1, n1, e1, e2⟩
        · have i1 := rd_in _ _ _ _ _ _ _ _ _ _ e1 (by omega) ha
          exact ih2 w op a1 c1 n1 a' c' n' e2 k1 i1.2.1 n (ih1 (w + 1) op a c n a1 c1 n1 e1 (by omega) ha)
        · cases e2
      · rw [if_neg k1, if_pos (show w = 5 by omega)] at hh
        by_cases p1 : pek T N a = 33
        · rw [if_pos p1] at hh
          have hlt : a < N := pek_lt (T := T) (by rw [p1]; decide)
          by_cases o5 : op = 5
          · rw [if_pos o5] at hh; cases hh
          · rw [if_neg o5] at hh
            rcases mtc_c hh with ⟨a1, c1, n1, e1, e2⟩ | ⟨a1, c1, n1, e1, e2⟩
            · cases e2
              have s1 := ih1 5 (op + 1) (a + 1) c n a' c1 n1 e1 (by omega) hlt
              exact wks_not (s1.cg (fun j h1 h2 => pk_un (by omega))) pk_us
            · cases e2
        · rw [if_neg p1] at hh
          by_cases p2 : pek T N a = 40
          · rw [if_pos p2] at hh
            have hlt : a < N := pek_lt (T := T) (by rw [p2]; decide)
            by_cases o5 : op = 5
            · rw [if_pos o5] at hh; cases hh
            · rw [if_neg o5] at hh
              rcases mtc_c hh with ⟨a1, c1, n1, e1, e2⟩ | ⟨a1, c1, n1, e1, e2⟩
              · by_cases p3 : pek T N a1 = 41
                · rw [if_pos p3] at e2
                  cases e2
                  exact ih1 0 (op + 1) (a + 1) c n a1 c' n' e1 (by omega) hlt
                · rw [if_neg p3] at e2; cases e2
              · cases e2
          · rw [if_neg p2] at hh
            by_cases p4 : 0 ≤ nmv lw (pek T N a)
            · rw [if_pos p4] at hh
              cases hh
              obtain ⟨k, hk, ek⟩ := nmv_k p4
              have e1 : (10000 + nI k : Int32) = nI (10000 + k) := nI_add 10000 k
              have e2 : (nI (10000 + k) - 10000 : Int32) = nI k := by
                show nI (10000 + k) - nI 10000 = _
                rw [pk_sub (by omega), Nat.add_sub_cancel_left]
              refine wks_push ?_ (Or.inr ?_)
              · rw [pk_us, ek, e1]
                exact (nI_ltI (b := 20000) (by omega) (by decide)).mpr (by omega)
              · rw [pk_us, ek, e1, e2]
                exact mx_inN hk (by decide)
            · rw [if_neg p4] at hh
              by_cases p5 : (dgl T N 4 a 0).1 = a
              · rw [if_pos p5] at hh; cases hh
              · rw [if_neg p5] at hh
                cases hh
                obtain ⟨m', em, hm⟩ := dgl_v ht 4 a 0 0 rfl (by decide) (by decide)
                have hm4 : m' < 10000 := by
                  have : (0 + 1) * 10 ^ 4 = 10000 := by decide
                  omega
                refine wks_push ?_ (Or.inl ?_)
                · rw [pk_us, em]
                  exact (nI_ltI (b := 20000) (by omega) (by decide)).mpr (by omega)
                · rw [pk_us, em]
                  exact (nI_ltI (b := 10000) (by omega) (by decide)).mpr hm4
    · intro lv op a c n a' c' n' hh hlv ha n0 s0
      unfold rd at hh
      rw [if_neg (by omega), if_neg (by omega), show 6 + lv - 6 = lv by omega, show 6 + lv - 5 = lv + 1 by omega] at hh
      by_cases p1 : lvl (pek T N a) = lv
      case neg =>
        rw [if_neg p1] at hh
        cases hh
        exact s0
      rw [if_pos p1] at hh
      have hlt : a < N := lvl_lt (T := T) (by omega)
      obtain ⟨l1, l2, l3, l4, l5⟩ := lvl_op (p := pek T N a) (by omega)
      rcases mtc_c hh with ⟨a1, c1, n1, e1, e2⟩ | ⟨a1, c1, n1, e1, e2⟩
      · have i1 := rd_in _ _ _ _ _ _ _ _ _ _ e1 (by omega) hlt
        have s1 := ih1 (lv + 1) op (a + 1) c n a1 c1 n1 e1 (by omega) hlt
        have sA : WKS (upd c1 n1 (20000 + pek T N a)) n0 n := s0.cg (fun j h1 h2 => by rw [pk_un (by omega)]; exact i1.2.2.2.2 j h2)
        have sB : WKS (upd c1 n1 (20000 + pek T N a)) n n1 := s1.cg (fun j h1 h2 => pk_un (by omega))
        have sC := wks_bin sA sB pk_us l3 l4
        by_cases w8 : lv = 2
        · rw [if_pos (by omega)] at e2
          cases e2
          exact sC
        · rw [if_neg (by omega)] at e2
          exact ih2 lv op a1 _ (n1 + 1) a' c' n' e2 hlv i1.2.1 n0 sC
      · cases e2
theorem WKS.pg {c : Nat → Int32} {n : Nat} (s : WKS c 0 n) (hn : n ≤ 50) : pg_ c n := by
  obtain ⟨a, b⟩ := s.2 0 (by omega)
  rw [Nat.sub_zero] at a b
  exact ⟨fun j hj => by rw [dp_dr]; have := a j hj; rwa [Nat.zero_add] at this, by rw [dp_dr]; exact b⟩
theorem pg_cg {c c' : Nat → Int32} {N : Nat} (h : ∀ j, j < N → c' j = c j) (p : pg_ c N) : pg_ c' N := by
  refine ⟨fun j hj => ?_, ?_⟩
  · rw [dp_dr, dr_cg j (fun i h1 h2 => h i (by omega)), ← dp_dr, h j hj]; exact p.1 j hj
  · rw [dp_dr, dr_cg N (fun i h1 h2 => h i (by omega)), ← dp_dr]; exact p.2
theorem TO.cg {m m' : Nat → Int32} {u : Nat} (t : TO m u) (e : m' (104 + u) = m (104 + u)) (e2 : ∀ j, j < 50 → m' (126 + 50 * u + j) = m (126 + 50 * u + j)) : TO m' u := by
  obtain ⟨N, hN, h1, h2⟩ := t
  refine ⟨N, hN, by rw [e]; exact h1, ?_⟩
  rcases h2 with h2 | h2
  · exact Or.inl h2
  · exact Or.inr (pg_cg (fun j hj => e2 j (by omega)) h2)
/-! rows that stay good -/
section MIS
variable {m m' : Nat → Int32}
theorem MI.di (h : MI m) : DI m := ⟨h.2.2.2.2.2.2.1, h.2.2.2.2.2.2.2.1⟩
theorem MI.te (h : MI m) (te : TE m m') (e9 : m' 9 = m 9) (e10 : m' 10 = m 10) (md : ∃ ns nb, MD m' ns nb) (di : DI m') : MI m' :=
  ⟨md, TO_TE te h.2.1, TO_TE te h.2.2.1, fun j hj => by rw [te j (by omega)]; exact h.2.2.2.1 j hj, by rw [e9]; exact h.2.2.2.2.1, by rw [e10]; exact h.2.2.2.2.2.1, di.1, di.2, fun j hj => by rw [te _ (by omega)]; exact h.2.2.2.2.2.2.2.2 j hj⟩
theorem MI.sg (h : MI m) (s : SG m m') (z : Z_ m') (n9 : NI (m' 9) 50) (n10 : NI (m' 10) 20) (tp : ∀ j, j < 50 → NI (m' (226 + j)) 255) : MI m' := by
  obtain ⟨⟨ns, nb, hns, hnb, e1, e2, e3⟩, t0, t1, _, _, _, d1, d2, _⟩ := h
  have g := s.1
  refine ⟨⟨ns, nb, hns, hnb, by rw [g 1 (by omega) (by omega) (by omega) (by omega)]; exact e1, by rw [g 2 (by omega) (by omega) (by omega) (by omega)]; exact e2, by rw [g 3 (by omega) (by omega) (by omega) (by omega)]; exact e3⟩, t0.cg (g _ (by omega) (by omega) (by omega) (by omega)) (fun j hj => s.2 _ (by omega) (by omega)), t1.cg (g _ (by omega) (by omega) (by omega) (by omega)) (fun j hj => s.2 _ (by omega) (by omega)), z, n9, n10, fun s' hs => ?_, fun b hb => ?_, tp⟩
  · rw [g _ (by omega) (by omega) (by omega) (by omega), g _ (by omega) (by omega) (by omega) (by omega), g _ (by omega) (by omega) (by omega) (by omega), g _ (by omega) (by omega) (by omega) (by omega)]; exact d1 s' hs
  · rw [g _ (by omega) (by omega) (by omega) (by omega), g _ (by omega) (by omega) (by omega) (by omega)]; exact d2 b hb
theorem MI.tx {c : Nat → Int32} {u n : Nat} (h : MI m) (hu : u < 2) (hn : n ≤ 50) (s : WKS c 0 n) : MI (txd (upd m 9 0) u n c) := by
  have ag : ∀ j, ¬ (126 + 50 * u ≤ j ∧ j < 126 + 50 * u + n) → j ≠ 104 + u → j ≠ 9 → txd (upd m 9 0) u n c j = m j := by
    intro j h1 h2 h3
    unfold txd
    rw [if_neg h1, if_neg h2, pk_un h3]
  have own : TO (txd (upd m 9 0) u n c) u := by
    refine ⟨n, hn, by unfold txd; rw [if_neg (by omega), if_pos rfl], Or.inr (pg_cg (fun j hj => ?_) (s.pg hn))⟩
    show txd (upd m 9 0) u n c (126 + 50 * u + j) = c j
    unfold txd
    rw [if_pos (by omega)]
    congr 1
    omega
  obtain ⟨⟨ns, nb, hns, hnb, e1, e2, e3⟩, t0, t1, z, n9, n10, d1, d2, tp⟩ := h
  have oth : ∀ u', u' < 2 → u' ≠ u → TO m u' → TO (txd (upd m 9 0) u n c) u' := fun u' h1 h2 t => t.cg (ag _ (by omega) (by omega) (by omega)) (fun j hj => ag _ (by omega) (by omega) (by omega))
  refine ⟨⟨ns, nb, hns, hnb, by rw [ag 1 (by omega) (by omega) (by omega)]; exact e1, by rw [ag 2 (by omega) (by omega) (by omega)]; exact e2, by rw [ag 3 (by omega) (by omega) (by omega)]; exact e3⟩, ?_, ?_, fun j hj => by rw [ag j (by omega) (by omega) (by omega)]; exact z j hj, ⟨0, by omega, by unfold txd; rw [if_neg (by omega), if_neg (by omega), pk_us]; rfl⟩, by rw [ag 10 (by omega) (by omega) (by omega)]; exact n10, fun s' hs => ?_, fun b hb => ?_, fun j hj => by rw [ag _ (by omega) (by omega) (by omega)]; exact tp j hj⟩
  · by_cases e : u = 0
    · subst e; exact own
    · exact oth 0 (by omega) (by omega) t0
  · by_cases e : u = 1
    · subst e; exact own
    · exact oth 1 (by omega) (by omega) t1
  · rw [ag _ (by omega) (by omega) (by omega), ag _ (by omega) (by omega) (by omega), ag _ (by omega) (by omega) (by omega), ag _ (by omega) (by omega) (by omega)]; exact d1 s' hs
  · rw [ag _ (by omega) (by omega) (by omega), ag _ (by omega) (by omega) (by omega)]; exact d2 b hb
end MIS
