/-! texts: a pure reader of both, and the reference's small methods of reading -/
def pek (T : Nat → Int32) (N a : Nat) : Int32 := if a < N then T a else -1
def lvl (b : Int32) : Nat := if b = 124 then 0 else if b = 38 then 1 else if b = 60 then 2 else if b = 61 then 2 else if b = 62 then 2 else if b = 43 then 3 else if b = 45 then 3 else if b = 42 then 4 else if b = 47 then 4 else if b = 37 then 4 else 5
def nmv (lw : Bool) (b : Int32) : Int32 := if lw = true then (if b = 112 then 0 else if b = 97 then 1 else if b = 116 then 2 else if b = 117 then 3 else -1) else (if b = 112 then 0 else if b = 102 then 1 else if b = 115 then 2 else if b = 116 then 3 else -1)
def dgl (T : Nat → Int32) (N : Nat) : Nat → Nat → Int32 → Nat × Int32
  | 0, a, v => (a, v)
  | f + 1, a, v => if 48 ≤ pek T N a ∧ pek T N a ≤ 57 then dgl T N f (a + 1) (10 * v + pek T N a - 48) else (a, v)
abbrev RDs : Type := Bool × Nat × (Nat → Int32) × Nat
def mtc (q : Option RDs) (F : Nat → (Nat → Int32) → Nat → Option RDs) : Option RDs := match q with
  | some (true, a, c, n) => F a c n
  | r => r
def rd (T : Nat → Int32) (N : Nat) (lw : Bool) : Nat → Nat → Nat → Nat → (Nat → Int32) → Nat → Option RDs
  | 0, _, _, _, _, _ => none
  | f + 1, w, op, a, c, n =>
    if w < 5 then mtc (rd T N lw f (w + 1) op a c n) (fun a' c' n' => rd T N lw f (6 + w) op a' c' n')
    else if w = 5 then
      if pek T N a = 33 then
        if op = 5 then some (false, a, c, n) else mtc (rd T N lw f 5 (op + 1) (a + 1) c n) (fun a' c' n' => some (true, a', upd c' n' 20033, n' + 1))
      else if pek T N a = 40 then
        if op = 5 then some (false, a, c, n) else mtc (rd T N lw f 0 (op + 1) (a + 1) c n) (fun a' c' n' => if pek T N a' = 41 then some (true, a' + 1, c', n') else some (false, a', c', n'))
      else if 0 ≤ nmv lw (pek T N a) then some (true, a + 1, upd c n (10000 + nmv lw (pek T N a)), n + 1)
      else if (dgl T N 4 a 0).1 = a then some (false, a, c, n) else some (true, (dgl T N 4 a 0).1, upd c n (dgl T N 4 a 0).2, n + 1)
    else
      if lvl (pek T N a) = w - 6 then mtc (rd T N lw f (w - 5) op (a + 1) c n) (fun a' c' n' => if w = 8 then some (true, a', upd c' n' (20000 + pek T N a), n' + 1) else rd T N lw f w op a' (upd c' n' (20000 + pek T N a)) (n' + 1))
      else some (true, a, c, n)
/-- how a step of reading ends: with its first part, or behind it -/
theorem mtc_c {q : Option RDs} {F : Nat → (Nat → Int32) → Nat → Option RDs} {s : RDs} (h : mtc q F = some s) : (∃ a c n, q = some (true, a, c, n) ∧ F a c n = some s) ∨ (∃ a c n, q = some (false, a, c, n) ∧ s = (false, a, c, n)) := by
  match q, h with
  | none, h => cases h
  | some (true, a, c, n), h => exact Or.inl ⟨a, c, n, rfl, h⟩
  | some (false, a, c, n), h => cases h; exact Or.inr ⟨a, c, n, rfl, rfl⟩
theorem pek_lt {T : Nat → Int32} {N a : Nat} (h : ¬ pek T N a = -1) : a < N := by
  unfold pek at h
  by_cases q : a < N
  · exact q
  · rw [if_neg q] at h; exact absurd rfl h
theorem lvl_lt {T : Nat → Int32} {N a : Nat} (h : lvl (pek T N a) < 5) : a < N := by
  apply pek_lt
  intro q
  rw [q] at h
  exact absurd h (by decide)
theorem nmv_lt {T : Nat → Int32} {lw : Bool} {N a : Nat} (h : 0 ≤ nmv lw (pek T N a)) : a < N := by
  apply pek_lt
  intro q
  rw [q] at h
  revert h
  cases lw <;> decide
theorem dgl_in {T : Nat → Int32} {N : Nat} : ∀ f a v, a ≤ N → a ≤ (dgl T N f a v).1 ∧ (dgl T N f a v).1 ≤ N
  | 0, a, v, h => ⟨Nat.le_refl a, h⟩
  | f + 1, a, v, h => by
    unfold dgl
    by_cases q : 48 ≤ pek T N a ∧ pek T N a ≤ 57
    · rw [if_pos q]
      have ha : a < N := pek_lt (fun e => by rw [e] at q; exact absurd q.1 (by decide))
      have := dgl_in (T := T) f (a + 1) (10 * v + pek T N a - 48) ha
      omega
    · rw [if_neg q]
      exact ⟨Nat.le_refl a, h⟩
/-- what reading keeps -/
theorem rd_in {T : Nat → Int32} {N : Nat} {lw : Bool} : ∀ f w op a c n b a' c' n', rd T N lw f w op a c n = some (b, a', c', n') → w ≤ 10 → a ≤ N → a ≤ a' ∧ a' ≤ N ∧ n ≤ n' ∧ n' + a ≤ n + a' ∧ (∀ j, j < n → c' j = c j) := by
  intro f
  induction f with
  | zero => intro w op a c n b a' c' n' h; cases h
  | succ f ih =>
    intro w op a c n b a' c' n' h hw ha
    have tl : ∀ (q : Option RDs) (F : Nat → (Nat → Int32) → Nat → Option RDs), (∀ b1 a1 c1 n1, q = some (b1, a1, c1, n1) → a ≤ a1 ∧ a1 ≤ N ∧ n ≤ n1 ∧ n1 + a ≤ n + a1 ∧ (∀ j, j < n → c1 j = c j)) → (∀ a1 c1 n1, a ≤ a1 ∧ a1 ≤ N ∧ n ≤ n1 ∧ n1 + a ≤ n + a1 ∧ (∀ j, j < n → c1 j = c j) → q = some (true, a1, c1, n1) → F a1 c1 n1 = some (b, a', c', n') → a ≤ a' ∧ a' ≤ N ∧ n ≤ n' ∧ n' + a ≤ n + a' ∧ (∀ j, j < n → c' j = c j)) → mtc q F = some (b, a', c', n') → a ≤ a' ∧ a' ≤ N ∧ n ≤ n' ∧ n' + a ≤ n + a' ∧ (∀ j, j < n → c' j = c j) := by
      intro q F h1 h2 h3
      match q, h1, h2, h3 with
      | none, _, _, h3 => cases h3
      | some (true, a1, c1, n1), h1, h2, h3 => exact h2 a1 c1 n1 (h1 _ _ _ _ rfl) rfl h3
      | some (false, a1, c1, n1), h1, _, h3 =>
        cases h3
        exact h1 _ _ _ _ rfl
    unfold rd at h
    by_cases w1 : w < 5
    · rw [if_pos w1] at h
      refine tl _ _ (fun b1 a1 c1 n1 e => ih _ _ _ _ _ _ _ _ _ e (by omega) ha) (fun a1 c1 n1 hh e h3 => ?_) h
      have := ih _ _ _ _ _ _ _ _ _ h3 (by omega) hh.2.1
      refine ⟨by omega, by omega, by omega, by omega, fun j hj => ?_⟩
      rw [this.2.2.2.2 j (by omega)]
      exact hh.2.2.2.2 j hj
    · rw [if_neg w1] at h
      by_cases w2 : w = 5
      · rw [if_pos w2] at h
        by_cases p1 : pek T N a = 33
        · rw [if_pos p1] at h
          have hlt : a < N := pek_lt (by rw [p1]; decide)
          by_cases o5 : op = 5
          · rw [if_pos o5] at h
            cases h
            exact ⟨Nat.le_refl _, ha, Nat.le_refl _, by omega, fun _ _ => rfl⟩
          · rw [if_neg o5] at h
            refine tl _ (fun a1 c1 n1 => some (true, a1, upd c1 n1 20033, n1 + 1)) (fun b1 a1 c1 n1 e => ?_) (fun a1 c1 n1 hh e h3 => ?_) h
            · have := ih _ _ _ _ _ _ _ _ _ e (by omega) hlt
              exact ⟨by omega, by omega, by omega, by omega, this.2.2.2.2⟩
            · have := ih _ _ _ _ _ _ _ _ _ e (by omega) hlt
              cases h3
              refine ⟨by omega, by omega, by omega, by omega, fun j hj => ?_⟩
              rw [pk_un (by omega)]
              exact hh.2.2.2.2 j hj
        · rw [if_neg p1] at h
          by_cases p2 : pek T N a = 40
          · rw [if_pos p2] at h
            have hlt : a < N := pek_lt (by rw [p2]; decide)
            by_cases o5 : op = 5
            · rw [if_pos o5] at h
              cases h
              exact ⟨Nat.le_refl _, ha, Nat.le_refl _, by omega, fun _ _ => rfl⟩
            · rw [if_neg o5] at h
              refine tl _ (fun a1 c1 n1 => if pek T N a1 = 41 then some (true, a1 + 1, c1, n1) else some (false, a1, c1, n1)) (fun b1 a1 c1 n1 e => ?_) (fun a1 c1 n1 hh e h3 => ?_) h
              · have := ih _ _ _ _ _ _ _ _ _ e (by omega) hlt
                exact ⟨by omega, by omega, by omega, by omega, this.2.2.2.2⟩
              · by_cases p3 : pek T N a1 = 41
                · rw [if_pos p3] at h3
                  have hlt1 : a1 < N := pek_lt (by rw [p3]; decide)
                  cases h3
                  exact ⟨by omega, by omega, by omega, by omega, hh.2.2.2.2⟩
                · rw [if_neg p3] at h3
                  cases h3
                  exact hh
          · rw [if_neg p2] at h
            by_cases p4 : 0 ≤ nmv lw (pek T N a)
            · rw [if_pos p4] at h
              have hlt := nmv_lt p4
              cases h
              exact ⟨by omega, by omega, by omega, by omega, fun j hj => pk_un (by omega)⟩
            · rw [if_neg p4] at h
              have hd := dgl_in (T := T) 4 a 0 ha
              by_cases p5 : (dgl T N 4 a 0).1 = a
              · rw [if_pos p5] at h
                cases h
                exact ⟨Nat.le_refl _, ha, Nat.le_refl _, by omega, fun _ _ => rfl⟩
              · rw [if_neg p5] at h
                cases h
                exact ⟨by omega, by omega, by omega, by omega, fun j hj => pk_un (by omega)⟩
      · rw [if_neg w2] at h
        by_cases p1 : lvl (pek T N a) = w - 6
        · rw [if_pos p1] at h
          have hlt : a < N := lvl_lt (T := T) (by omega)
          refine tl _ (fun a1 c1 n1 => if w = 8 then some (true, a1, upd c1 n1 (20000 + pek T N a), n1 + 1) else rd T N lw f w op a1 (upd c1 n1 (20000 + pek T N a)) (n1 + 1)) (fun b1 a1 c1 n1 e => ?_) (fun a1 c1 n1 hh e h3 => ?_) h
          · have := ih _ _ _ _ _ _ _ _ _ e (by omega) hlt
            exact ⟨by omega, by omega, by omega, by omega, this.2.2.2.2⟩
          · have h1 := ih _ _ _ _ _ _ _ _ _ e (by omega) hlt
            by_cases w8 : w = 8
            · rw [if_pos w8] at h3
              cases h3
              refine ⟨by omega, by omega, by omega, by omega, fun j hj => ?_⟩
              rw [pk_un (by omega)]
              exact hh.2.2.2.2 j hj
            · rw [if_neg w8] at h3
              have h2 := ih _ _ _ _ _ _ _ _ _ h3 (by omega) hh.2.1
              refine ⟨by omega, by omega, by omega, by omega, fun j hj => ?_⟩
              rw [h2.2.2.2.2 j (by omega), pk_un (by omega)]
              exact hh.2.2.2.2 j hj
        · rw [if_neg p1] at h
          cases h
          exact ⟨Nat.le_refl _, ha, Nat.le_refl _, by omega, fun _ _ => rfl⟩
/-- reading ends -/
theorem rd_to {T : Nat → Int32} {N : Nat} {lw : Bool} : ∀ f w op a c n, w ≤ 10 → a ≤ N → 12 * (N - a) + (if w ≤ 4 then 2 * (5 - w) + 1 else 1) ≤ f → ∃ s, rd T N lw f w op a c n = some s := by
  intro f
  induction f with
  | zero => intro w op a c n hw ha hf; exfalso; split at hf <;> omega
  | succ f ih =>
    intro w op a c n hw ha hf
    have tl : ∀ (q : Option RDs) (F : Nat → (Nat → Int32) → Nat → Option RDs), (∃ s, q = some s) → (∀ a1 c1 n1, q = some (true, a1, c1, n1) → ∃ s, F a1 c1 n1 = some s) → ∃ s, mtc q F = some s := by
      intro q F h1 h2
      match q, h1, h2 with
      | none, h1, _ => exact absurd h1 (by rintro ⟨s, h⟩; cases h)
      | some (true, a1, c1, n1), _, h2 => exact h2 a1 c1 n1 rfl
      | some (false, a1, c1, n1), _, _ => exact ⟨_, rfl⟩
    unfold rd
    by_cases w1 : w < 5
    · rw [if_pos w1]
      rw [if_pos (by omega)] at hf
      refine tl _ _ (ih (w + 1) op a c n (by omega) ha (by split <;> omega)) (fun a1 c1 n1 e => ?_)
      have := rd_in _ _ _ _ _ _ _ _ _ _ e (by omega) ha
      exact ih (6 + w) op a1 c1 n1 (by omega) this.2.1 (by rw [if_neg (by omega)]; omega)
    · rw [if_neg w1]
      rw [if_neg (by omega)] at hf
      by_cases w2 : w = 5
      · rw [if_pos w2]
        by_cases p1 : pek T N a = 33
        · rw [if_pos p1]
          have hlt : a < N := pek_lt (by rw [p1]; decide)
          by_cases o5 : op = 5
          · rw [if_pos o5]; exact ⟨_, rfl⟩
          · rw [if_neg o5]
            exact tl _ (fun a1 c1 n1 => some (true, a1, upd c1 n1 20033, n1 + 1)) (ih 5 (op + 1) (a + 1) c n (by omega) hlt (by rw [if_neg (by omega)]; omega)) (fun a1 c1 n1 e => ⟨_, rfl⟩)
        · rw [if_neg p1]
          by_cases p2 : pek T N a = 40
          · rw [if_pos p2]
            have hlt : a < N := pek_lt (by rw [p2]; decide)
            by_cases o5 : op = 5
            · rw [if_pos o5]; exact ⟨_, rfl⟩
            · rw [if_neg o5]
              refine tl _ (fun a1 c1 n1 => if pek T N a1 = 41 then some (true, a1 + 1, c1, n1) else some (false, a1, c1, n1)) (ih 0 (op + 1) (a + 1) c n (by omega) hlt (by rw [if_pos (by omega)]; omega)) (fun a1 c1 n1 e => ?_)
              by_cases p3 : pek T N a1 = 41
              · rw [if_pos p3]; exact ⟨_, rfl⟩
              · rw [if_neg p3]; exact ⟨_, rfl⟩
          · rw [if_neg p2]
            by_cases p4 : 0 ≤ nmv lw (pek T N a)
            · rw [if_pos p4]; exact ⟨_, rfl⟩
            · rw [if_neg p4]
              by_cases p5 : (dgl T N 4 a 0).1 = a
              · rw [if_pos p5]; exact ⟨_, rfl⟩
              · rw [if_neg p5]; exact ⟨_, rfl⟩
      · rw [if_neg w2]
        by_cases p1 : lvl (pek T N a) = w - 6
        · rw [if_pos p1]
          have hlt : a < N := lvl_lt (T := T) (by omega)
          refine tl _ (fun a1 c1 n1 => if w = 8 then some (true, a1, upd c1 n1 (20000 + pek T N a), n1 + 1) else rd T N lw f w op a1 (upd c1 n1 (20000 + pek T N a)) (n1 + 1)) (ih (w - 5) op (a + 1) c n (by omega) hlt (by split <;> omega)) (fun a1 c1 n1 e => ?_)
          have h1 := rd_in _ _ _ _ _ _ _ _ _ _ e (by omega) hlt
          by_cases w8 : w = 8
          · rw [if_pos w8]; exact ⟨_, rfl⟩
          · rw [if_neg w8]
            exact ih w op a1 _ _ (by omega) h1.2.1 (by rw [if_neg (by omega)]; omega)
        · rw [if_neg p1]; exact ⟨_, rfl⟩
