/-! what a text that was read means -/
def rn (nm c : Nat → Int32) (n : Nat) : Nat → (Nat → Int32) × Nat → (Nat → Int32) × Nat
  | 0, q => q
  | k + 1, q => ws_ nm (c (n + k)) (rn nm c n k q)
theorem rn_add {nm c : Nat → Int32} {n k1 : Nat} {q : (Nat → Int32) × Nat} : ∀ k2, rn nm c n (k1 + k2) q = rn nm c (n + k1) k2 (rn nm c n k1 q)
  | 0 => rfl
  | k2 + 1 => by
    show ws_ nm (c (n + (k1 + k2))) (rn nm c n (k1 + k2) q) = ws_ nm (c (n + k1 + k2)) (rn nm c (n + k1) k2 (rn nm c n k1 q))
    rw [rn_add k2, Nat.add_assoc]
theorem rn_cg {nm c c' : Nat → Int32} {n : Nat} {q : (Nat → Int32) × Nat} : ∀ k, (∀ j, n ≤ j → j < n + k → c' j = c j) → rn nm c' n k q = rn nm c n k q
  | 0, _ => rfl
  | k + 1, h => by
    show ws_ nm (c' (n + k)) (rn nm c' n k q) = ws_ nm (c (n + k)) (rn nm c n k q)
    rw [rn_cg k (fun j h1 h2 => h j h1 (by omega)), h (n + k) (by omega) (by omega)]
theorem wr_rn {nm c p : Nat → Int32} : ∀ j, wr_ nm c p j = rn nm c 0 j (p, 0)
  | 0 => rfl
  | j + 1 => by
    show ws_ nm (c j) (wr_ nm c p j) = ws_ nm (c (0 + j)) (rn nm c 0 j (p, 0))
    rw [wr_rn j, Nat.zero_add]
def SEM (c : Nat → Int32) (n n' : Nat) (V : (Nat → Int32) → Int32) : Prop := n ≤ n' ∧ ∀ nm p t, (rn nm c n (n' - n) (p, t)).2 = t + 1 ∧ (rn nm c n (n' - n) (p, t)).1 t = V nm ∧ ∀ i, i < t → (rn nm c n (n' - n) (p, t)).1 i = p i
section SM
variable {c c' : Nat → Int32} {n n' n1 n2 : Nat} {V V1 V2 : (Nat → Int32) → Int32}
theorem SEM.cg (s : SEM c n n' V) (h : ∀ j, n ≤ j → j < n' → c' j = c j) : SEM c' n n' V := by
  have h1 := s.1
  refine ⟨h1, fun nm p t => ?_⟩
  rw [rn_cg (n' - n) (fun j h2 h3 => h j h2 (by omega))]
  exact s.2 nm p t
theorem SEM.ev (s : SEM c n n' V) (h : ∀ nm, V nm = V1 nm) : SEM c n n' V1 := ⟨s.1, fun nm p t => by rw [← h nm]; exact s.2 nm p t⟩
theorem sem_push (h : c n < 20000) : SEM c n (n + 1) (fun nm => if c n < 10000 then c n else nm (c n - 10000).toNatClampNeg) := by
  refine ⟨by omega, fun nm p t => ?_⟩
  rw [Nat.add_sub_cancel_left]
  have e : rn nm c n 1 (p, t) = (upd p t (if c n < 10000 then c n else nm (c n - 10000).toNatClampNeg), t + 1) := by
    show ws_ nm (c (n + 0)) (p, t) = _
    rw [Nat.add_zero]
    unfold ws_
    rw [if_pos h]
  rw [e]
  exact ⟨rfl, pk_us, fun i hi => pk_un (by omega)⟩
theorem sem_not (s : SEM c n n' V) (h : c n' = 20033) : SEM c n (n' + 1) (fun nm => if V nm = 0 then 1 else 0) := by
  have h1 := s.1
  refine ⟨by omega, fun nm p t => ?_⟩
  obtain ⟨a1, a2, a3⟩ := s.2 nm p t
  have e : rn nm c n (n' + 1 - n) (p, t) = ws_ nm 20033 (rn nm c n (n' - n) (p, t)) := by
    rw [show n' + 1 - n = (n' - n) + 1 by omega]
    show ws_ nm (c (n + (n' - n))) _ = _
    rw [show n + (n' - n) = n' by omega, h]
  rw [e]
  unfold ws_
  rw [if_neg (by decide), if_pos rfl, a1]
  simp only [Nat.add_sub_cancel, a2]
  exact ⟨trivial, pk_us, fun i hi => by rw [pk_un (by omega)]; exact a3 i hi⟩
theorem sem_bin {p : Int32} (s1 : SEM c n n1 V1) (s2 : SEM c n1 n2 V2) (h : c n2 = 20000 + p) (k1 : ¬ (20000 + p : Int32) < 20000) (k2 : ¬ (20000 + p : Int32) = 20033) (k3 : (20000 + p : Int32) - 20000 = p) : SEM c n (n2 + 1) (fun nm => dn_ p (V1 nm) (V2 nm)) := by
  have h1 := s1.1
  have h2 := s2.1
  refine ⟨by omega, fun nm q t => ?_⟩
  obtain ⟨a1, a2, a3⟩ := s1.2 nm q t
  generalize hq1 : rn nm c n (n1 - n) (q, t) = q1 at a1 a2 a3
  obtain ⟨p1, t1⟩ := q1
  simp only at a1 a2 a3
  subst a1
  obtain ⟨b1, b2, b3⟩ := s2.2 nm p1 (t + 1)
  have e : rn nm c n (n2 + 1 - n) (q, t) = ws_ nm (20000 + p) (rn nm c n1 (n2 - n1) (p1, t + 1)) := by
    rw [show n2 + 1 - n = (n2 - n) + 1 by omega]
    show ws_ nm (c (n + (n2 - n))) _ = _
    rw [show n + (n2 - n) = n2 by omega, h, show n2 - n = (n1 - n) + (n2 - n1) by omega, rn_add, hq1, show n + (n1 - n) = n1 by omega]
  rw [e]
  unfold ws_
  rw [if_neg k1, if_neg k2, b1, k3]
  simp only [show t + 1 + 1 - 1 = t + 1 by omega, show t + 1 + 1 - 2 = t by omega, b2, b3 t (by omega), a2]
  exact ⟨trivial, pk_us, fun i hi => by rw [pk_un (by omega), b3 i (by omega)]; exact a3 i hi⟩
end SM
/-! steps -/
def P0 (R : R4) : KT := (R.1, R.2.1, R.2.2.1, R.2.2.2, 0, 0, 0)
def VL (R : R4) (z x : Nat) (nm : Nat → Int32) : Int32 := es_ (P0 R) nm z x
def WF4 (R : R4) (z : Nat) : Prop := ∀ i, 4 ≤ i → i < z → opk (R.1 i) ∧ (∃ l, l < i ∧ R.2.1 i = nI l) ∧ (∃ m, m < i ∧ R.2.2.1 i = nI m)
def EXT (R : R4) (z : Nat) (R' : R4) (z' : Nat) : Prop := z ≤ z' ∧ ∀ i, i < z → R'.1 i = R.1 i ∧ R'.2.1 i = R.2.1 i ∧ R'.2.2.1 i = R.2.2.1 i ∧ R'.2.2.2 i = R.2.2.2 i
theorem EXT.rf (R : R4) (z : Nat) : EXT R z R z := ⟨Nat.le_refl z, fun _ _ => ⟨rfl, rfl, rfl, rfl⟩⟩
theorem EXT.tr {R1 R2 R3 : R4} {z1 z2 z3 : Nat} (a : EXT R1 z1 R2 z2) (b : EXT R2 z2 R3 z3) : EXT R1 z1 R3 z3 := ⟨Nat.le_trans a.1 b.1, fun i hi => by
  have h1 := a.1
  obtain ⟨a1, a2, a3, a4⟩ := a.2 i hi
  obtain ⟨b1, b2, b3, b4⟩ := b.2 i (by omega)
  exact ⟨b1.trans a1, b2.trans a2, b3.trans a3, b4.trans a4⟩⟩
theorem es_cg {R R' : R4} {z : Nat} {nm : Nat → Int32} (hz : z < 2 ^ 31) (wf : WF4 R z) (e : ∀ i, i < z → R'.1 i = R.1 i ∧ R'.2.1 i = R.2.1 i ∧ R'.2.2.1 i = R.2.2.1 i ∧ R'.2.2.2 i = R.2.2.2 i) : ∀ k, k ≤ z → ∀ j, j < z → (j < k ∨ j < 4) → es_ (P0 R') nm k j = es_ (P0 R) nm k j
  | 0, _, j, hj, hk => by
    have h4 : j < 4 := by omega
    rw [es_nm h4, es_nm h4]
  | k + 1, hk, j, hj, hjk => by
    rw [es_s, es_s]
    by_cases c : k < 4
    · rw [if_pos c, if_pos c]
      exact es_cg hz wf e k (by omega) j hj (by omega)
    · rw [if_neg c, if_neg c]
      by_cases ej : j = k
      · subst ej
        rw [pk_us, pk_us]
        obtain ⟨_, ⟨l, hl, el⟩, ⟨m, hm, em⟩⟩ := wf j (by omega) (by omega)
        obtain ⟨e1, e2, e3, e4⟩ := e j hj
        have ih := es_cg (nm := nm) hz wf e j (by omega)
        show cop (R'.1 j) (es_ (P0 R') nm j (R'.2.1 j).toNatClampNeg) (es_ (P0 R') nm j (R'.2.2.1 j).toNatClampNeg) (es_ (P0 R') nm j j) = cop (R.1 j) (es_ (P0 R) nm j (R.2.1 j).toNatClampNeg) (es_ (P0 R) nm j (R.2.2.1 j).toNatClampNeg) (es_ (P0 R) nm j j)
        rw [e1, e2, e3, el, em, nI_clamp (by omega), nI_clamp (by omega), ih l (by omega) (by omega), ih m (by omega) (by omega), es_at (by omega) (Nat.le_refl j), es_at (by omega) (Nat.le_refl j)]
        show cop _ _ _ (R'.2.2.2 j) = cop _ _ _ (R.2.2.2 j)
        rw [e4]
      · rw [pk_un ej, pk_un ej]
        exact es_cg hz wf e k (by omega) j hj (by omega)
theorem VL.ext {R R' : R4} {z z' x : Nat} {nm : Nat → Int32} (hz : z < 2 ^ 31) (wf : WF4 R z) (e : EXT R z R' z') (hx : x < z) : VL R' z' x nm = VL R z x nm := by
  unfold VL
  have h1 := e.1
  rw [show z' = z + (z' - z) by omega, es_st hx]
  exact es_cg hz wf e.2 z (Nat.le_refl z) x hx (Or.inl hx)
theorem ad4_ext {R : R4} {z : Nat} {s x y : Int32} : EXT R z (ad4 R z s x y) (z + 1) := ⟨by omega, fun i hi => ⟨pk_un (by omega), pk_un (by omega), pk_un (by omega), rfl⟩⟩
theorem ad4_wf {R : R4} {z x y : Nat} {s : Int32} (wf : WF4 R z) (hs : opk s) (hx : x < z) (hy : y < z) : WF4 (ad4 R z s (nI x) (nI y)) (z + 1) := by
  intro i h4 hi
  by_cases e : i = z
  · subst e
    exact ⟨by show opk (upd R.1 i s i); rw [pk_us]; exact hs, ⟨x, hx, pk_us⟩, ⟨y, hy, pk_us⟩⟩
  · obtain ⟨a, ⟨l, hl, el⟩, ⟨m, hm, em⟩⟩ := wf i h4 (by omega)
    exact ⟨by show opk (upd R.1 z s i); rw [pk_un e]; exact a, ⟨l, hl, by show upd R.2.1 z _ i = _; rw [pk_un e]; exact el⟩, ⟨m, hm, by show upd R.2.2.1 z _ i = _; rw [pk_un e]; exact em⟩⟩
theorem ad4_vl {R : R4} {z x y : Nat} {s : Int32} {nm : Nat → Int32} (hz4 : 4 ≤ z) (hz : z < 2 ^ 30) (wf : WF4 R z) (hx : x < z) (hy : y < z) : VL (ad4 R z s (nI x) (nI y)) (z + 1) z nm = cop s (VL R z x nm) (VL R z y nm) (R.2.2.2 z) := by
  unfold VL
  rw [es_s, if_neg (by omega), pk_us]
  have ih := es_cg (nm := nm) (R := R) (R' := ad4 R z s (nI x) (nI y)) (show z < 2 ^ 31 by omega) wf (ad4_ext (x := nI x) (y := nI y) (s := s)).2 z (Nat.le_refl z)
  show cop (upd R.1 z s z) (es_ _ nm z (upd R.2.1 z (nI x) z).toNatClampNeg) (es_ _ nm z (upd R.2.2.1 z (nI y) z).toNatClampNeg) (es_ _ nm z z) = _
  rw [pk_us, pk_us, pk_us, nI_clamp (by omega), nI_clamp (by omega), ih x hx (Or.inl hx), ih y hy (Or.inl hy), es_at hz4 (Nat.le_refl z)]
  rfl
theorem lvl_op {p : Int32} (h : lvl p < 5) : (∀ x y o, cop p x y o = dn_ p x y) ∧ opk p ∧ ¬ (20000 + p : Int32) < 20000 ∧ ¬ (20000 + p : Int32) = 20033 ∧ (20000 + p : Int32) - 20000 = p := by
  have key : p = 124 ∨ p = 38 ∨ p = 60 ∨ p = 61 ∨ p = 62 ∨ p = 43 ∨ p = 45 ∨ p = 42 ∨ p = 47 ∨ p = 37 := by
    rcases (show lvl p = 0 ∨ lvl p = 1 ∨ lvl p = 2 ∨ lvl p = 3 ∨ lvl p = 4 by omega) with e | e | e | e | e
    · have := lvl_0.mp e; simp [this]
    · have := lvl_1.mp e; simp [this]
    · rcases lvl_2.mp e with e | e | e <;> simp [e]
    · rcases lvl_3.mp e with e | e <;> simp [e]
    · rcases lvl_4.mp e with e | e | e <;> simp [e]
  rcases key with e | e | e | e | e | e | e | e | e | e
  all_goals (subst e; refine ⟨fun x y o => ?_, ?_, by decide, by decide, by decide⟩)
  all_goals first | (simp [opk]; done) | simp [cop]
theorem nmv_k {lw : Bool} {p : Int32} (h : 0 ≤ nmv lw p) : ∃ k, k < 4 ∧ nmv lw p = nI k := by
  unfold nmv at h ⊢
  cases lw with
  | true =>
    rw [if_pos rfl] at h ⊢
    by_cases a1 : p = 112
    · rw [if_pos a1]; exact ⟨0, by decide, rfl⟩
    rw [if_neg a1] at h ⊢
    by_cases a2 : p = 97
    · rw [if_pos a2]; exact ⟨1, by decide, rfl⟩
    rw [if_neg a2] at h ⊢
    by_cases a3 : p = 116
    · rw [if_pos a3]; exact ⟨2, by decide, rfl⟩
    rw [if_neg a3] at h ⊢
    by_cases a4 : p = 117
    · rw [if_pos a4]; exact ⟨3, by decide, rfl⟩
    rw [if_neg a4] at h
    exact absurd h (by decide)
  | false =>
    rw [if_neg (by decide)] at h ⊢
    by_cases a1 : p = 112
    · rw [if_pos a1]; exact ⟨0, by decide, rfl⟩
    rw [if_neg a1] at h ⊢
    by_cases a2 : p = 102
    · rw [if_pos a2]; exact ⟨1, by decide, rfl⟩
    rw [if_neg a2] at h ⊢
    by_cases a3 : p = 115
    · rw [if_pos a3]; exact ⟨2, by decide, rfl⟩
    rw [if_neg a3] at h ⊢
    by_cases a4 : p = 116
    · rw [if_pos a4]; exact ⟨3, by decide, rfl⟩
    rw [if_neg a4] at h
    exact absurd h (by decide)
theorem nmv_dig {lw : Bool} {p : Int32} (h : 48 ≤ p ∧ p ≤ 57) : nmv lw p = -1 := by
  have ne : ∀ c : Int32, 57 < c → p ≠ c := fun c hc e => by rw [e] at h; exact Int32.not_lt.mpr h.2 hc
  unfold nmv
  rw [if_neg (ne 112 (by decide)), if_neg (ne 97 (by decide)), if_neg (ne 116 (by decide)), if_neg (ne 117 (by decide)), if_neg (ne 112 (by decide)), if_neg (ne 102 (by decide)), if_neg (ne 115 (by decide)), if_neg (ne 116 (by decide)), ite_self]
theorem dgl_v {T : Nat → Int32} {N : Nat} (ht : ∀ j, j < N → ∃ q, q < 256 ∧ T j = nI q) : ∀ f a v m, v = nI m → m + 1 ≤ 10 ^ (8 - f) → f ≤ 4 → ∃ m', (dgl T N f a v).2 = nI m' ∧ m' + 1 ≤ (m + 1) * 10 ^ f
  | 0, a, v, m, h, _, _ => ⟨m, h, by omega⟩
  | f + 1, a, v, m, h, hm, hf => by
    unfold dgl
    by_cases c : 48 ≤ pek T N a ∧ pek T N a ≤ 57
    · rw [if_pos c]
      have hlt : a < N := pek_lt (T := T) (fun e => by rw [e] at c; exact absurd c.1 (by decide))
      obtain ⟨q, hq, eq⟩ := ht a hlt
      have ep : pek T N a = nI q := by unfold pek; rw [if_pos hlt]; exact eq
      rw [ep] at c ⊢
      have q1 : 48 ≤ q := (nI_leI (a := 48) (by decide) (by omega)).mp c.1
      have q2 : q ≤ 57 := (nI_leI (b := 57) (by omega) (by decide)).mp c.2
      have ev : (10 * v + nI q - 48 : Int32) = nI (10 * m + q - 48) := by
        rw [h]
        show nI 10 * nI m + nI q - nI 48 = _
        rw [pk_mul, nI_add, pk_sub (by omega)]
      have hp : 10 ^ (8 - f) = 10 * 10 ^ (8 - (f + 1)) := by
        rw [show 8 - f = (8 - (f + 1)) + 1 by omega, Nat.pow_succ, Nat.mul_comm]
      obtain ⟨m', h1, h2⟩ := dgl_v ht f (a + 1) _ (10 * m + q - 48) ev (by omega) (by omega)
      refine ⟨m', h1, Nat.le_trans h2 ?_⟩
      rw [Nat.pow_succ, Nat.mul_comm (10 ^ f) 10, ← Nat.mul_assoc]
      exact Nat.mul_le_mul_right _ (by omega)
    · rw [if_neg c]
      refine ⟨m, h, ?_⟩
      have := Nat.pow_pos (n := f + 1) (show 0 < 10 by decide)
      exact Nat.le_mul_of_pos_right _ this
