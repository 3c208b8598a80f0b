/-! the abstract machine's cells, as cells of the real one -/
abbrev MXG : Type := Nat × (Nat → Nat) × (Nat → ClassId) × (Nat → ClassId) × (Nat → Nat → Nat)
def mx_cv (g : MXG) : Value → Value
  | .ref a => .ref (g.1 + a)
  | .float w => .ref (g.2.1 w.toNat)
  | v => v
def mx_ce (g : MXG) : va_E → va_E
  | .inl (k, n, .inr (.inr (.inr (.inr f)))) => .inl (g.2.2.1 k, n, mx_rfs (fun j => (f j).map (fun a => g.1 + a)))
  | .inl (k, x) => .inl (g.2.2.1 k, x)
  | .inr (ci, fs) => .inr (ci, fs.map (mx_cv g))
def mx_ws (g : MXG) (h : MXH) : va_W := h.mapIdx (fun i e => (g.1 + i, mx_ce g e))
abbrev mx_DD (g : MXG) : va_G := (g.2.2.2.1, g.2.2.2.2)
def mx_tys (g : MXG) : List (ClassId × FieldType) := [(g.2.2.1 0, .int), (g.2.2.1 1, .boolean), (g.2.2.1 2, .object "FallingSlates$Text"), (g.2.2.1 3, .object "FallingSlates$Seller"), (g.2.2.1 4, .object "FallingSlates$Sheet"), (g.2.2.1 5, .object "FallingSlates$Market")]
def mx_A (g : MXG) : Nat → Prop := fun q => g.1 ≤ q
theorem mx_ws_get (g : MXG) (h : MXH) (a : Nat) : (mx_ws g h)[a]? = (h[a]?).map (fun e => (g.1 + a, mx_ce g e)) := by
  simp [mx_ws, List.getElem?_mapIdx]
theorem mx_ws_at {g : MXG} {h : MXH} {a : Nat} {e : va_E} (he : h[a]? = some e) : (mx_ws g h)[a]? = some (g.1 + a, mx_ce g e) := by
  rw [mx_ws_get, he]; rfl
theorem mx_ws_set (g : MXG) (h : MXH) (a : Nat) (e : va_E) : (mx_ws g h).set a (g.1 + a, mx_ce g e) = mx_ws g (h.set a e) := by
  apply List.ext_getElem?
  intro i
  rw [mx_ws_get, List.getElem?_set, List.getElem?_set, mx_ws_get]
  by_cases hi : a = i
  · subst hi
    simp only [if_pos, mx_ws, List.length_mapIdx]
    split <;> rfl
  · simp [hi]
theorem mx_ws_push (g : MXG) (h : MXH) (e : va_E) : mx_ws g h ++ [(g.1 + h.length, mx_ce g e)] = mx_ws g (h ++ [e]) := by
  simp [mx_ws, List.mapIdx_append]
theorem mx_ws_len (g : MXG) (h : MXH) : (mx_ws g h).length = h.length := by simp [mx_ws]
theorem mx_ws_D (g : MXG) (h : MXH) : va_D (mx_A g) (mx_ws g h) := by
  refine ⟨fun i j p q hi hj hpq => ?_, fun k q hk => ?_⟩
  · rw [mx_ws_get] at hi hj
    cases h1 : h[i]? with
    | none => rw [h1] at hi; cases hi
    | some a =>
      cases h2 : h[j]? with
      | none => rw [h2] at hj; cases hj
      | some b =>
        rw [h1] at hi; rw [h2] at hj
        cases hi; cases hj
        have : g.1 + i = g.1 + j := hpq
        omega
  · rw [mx_ws_get] at hk
    cases h1 : h[k]? with
    | none => rw [h1] at hk; cases hk
    | some a =>
      rw [h1] at hk
      cases hk
      exact Nat.le_add_right _ _
/-- how many slots a cell has, and all cells -/
def mx_w : va_E → Nat
  | .inl x => x.2.1
  | .inr x => x.2.length
def mx_sz (h : MXH) : Nat := (h.map mx_w).sum
theorem mx_sz_push (h : MXH) (e : va_E) : mx_sz (h ++ [e]) = mx_sz h + mx_w e := by simp [mx_sz]
theorem mx_sz_set {h : MXH} {a : Nat} {e e' : va_E} (he : h[a]? = some e) (hw : mx_w e' = mx_w e) : mx_sz (h.set a e') = mx_sz h := by
  unfold mx_sz
  rw [List.map_set, hw]
  congr 1
  apply List.ext_getElem?
  intro i
  rw [List.getElem?_set, List.getElem?_map]
  by_cases hi : a = i
  · subst hi
    simp only [he, Option.map_some, if_pos, List.length_map]
    rw [if_pos (List.getElem?_eq_some_iff.mp he).1]
  · simp [hi]
/-- the locals: what is known of them -/
def mx_lv (g : MXG) (ls : Array Slot) (nL : Nat) (l : List Value) : Prop := ls.size = nL ∧ l.length = nL ∧ lv_wf ls ∧ ∀ (i : Nat) (v : Value), l[i]? = some v → (∀ x, v ≠ .double x) → ls[i]? = some (.val (mx_cv g v))
def mx_all (g : MXG) : Nat → List Value → List (Nat × Value)
  | _, [] => []
  | i, .double _ :: t => mx_all g (i + 1) t
  | i, v :: t => (i, mx_cv g v) :: mx_all g (i + 1) t
theorem mx_all_mem {g : MXG} : ∀ {l : List Value} {i j : Nat} {v : Value}, l[j]? = some v → (∀ x, v ≠ .double x) → (i + j, mx_cv g v) ∈ mx_all g i l
  | [], i, j, v, h, _ => by simp at h
  | a :: t, i, 0, v, h, hv => by
    simp at h
    subst h
    cases a <;> first | exact absurd rfl (hv _) | exact List.mem_cons_self
  | a :: t, i, j + 1, v, h, hv => by
    have h' : t[j]? = some v := by simpa using h
    have := mx_all_mem (g := g) (i := i + 1) h' hv
    rw [show i + (j + 1) = i + 1 + j by omega]
    cases a <;> first | exact this | exact List.mem_cons_of_mem _ this
theorem mx_all_of {g : MXG} : ∀ {l : List Value} {i : Nat} {q : Nat × Value}, q ∈ mx_all g i l → ∃ (j : Nat) (v : Value), l[j]? = some v ∧ (∀ x, v ≠ .double x) ∧ q = (i + j, mx_cv g v)
  | [], i, q, h => by cases h
  | a :: t, i, q, h => by
    have key : q ∈ mx_all g (i + 1) t → ∃ (j : Nat) (v : Value), (a :: t)[j]? = some v ∧ (∀ x, v ≠ .double x) ∧ q = (i + j, mx_cv g v) := fun h => by
      obtain ⟨j, v, h1, h2, h3⟩ := mx_all_of h
      exact ⟨j + 1, v, by simpa using h1, h2, by rw [h3]; congr 1; omega⟩
    cases a with
    | double x => exact key h
    | _ =>
      rcases List.mem_cons.mp h with h | h
      · exact ⟨0, _, rfl, (fun x hx => by cases hx), h⟩
      · exact key h
theorem mx_lv_has {g : MXG} {ls : Array Slot} {nL : Nat} {l : List Value} (h : mx_lv g ls nL l) : lv_has ls nL (mx_all g 0 l) := by
  refine ⟨h.1, h.2.2.1, fun q hq => ?_⟩
  obtain ⟨j, v, h1, h2, rfl⟩ := mx_all_of hq
  simpa using h.2.2.2 j v h1 h2
theorem mx_cat (g : MXG) (v : Value) (hv : mx_c1 v = true) : (mx_cv g v).category = 1 := by cases v <;> first | rfl | cases hv
theorem mx_catle (g : MXG) (v : Value) : (mx_cv g v).category ≤ 2 := by cases v <;> simp [mx_cv, Value.category]
/-- after a store of one slot -/
theorem mx_lv_set {g : MXG} {ls' : Array Slot} {nL i : Nat} {l l' : List Value} {v : Value} (hl : l.length = nL) (hst : mx_st l i v = some l')
    (h : lv_has ls' nL ((i, mx_cv g v) :: (mx_all g 0 l).filter (fun q => !(q.1 == i) && !(q.1 + 1 == i && q.2.category == 2)))) : mx_lv g ls' nL l' := by
  have hi : i < l.length ∧ l' = l.set i v ∧ ∀ j, j + 1 = i → ∀ x, l[j]? ≠ some (.long x) := by
    unfold mx_st at hst
    split at hst
    · rename_i hlt
      refine ⟨hlt, ?_⟩
      cases i with
      | zero => simp at hst; exact ⟨hst.symm, fun j hj => by omega⟩
      | succ n =>
        simp only at hst
        split at hst
        · cases hst
        · rename_i hno
          exact ⟨(Option.some.inj hst).symm, fun j hj x hx => by
            have : j = n := by omega
            subst this
            exact hno x hx⟩
    · cases hst
  obtain ⟨hlt, rfl, hno⟩ := hi
  refine ⟨h.1, by simp [hl], h.2.1, fun j w hj hw => ?_⟩
  rw [List.getElem?_set] at hj
  by_cases hji : i = j
  · subst hji
    rw [if_pos rfl, if_pos hlt] at hj
    cases hj
    exact h.2.2 _ List.mem_cons_self
  · rw [if_neg hji] at hj
    have hm := mx_all_mem (g := g) (i := 0) hj hw
    rw [Nat.zero_add] at hm
    refine h.2.2 (j, mx_cv g w) (List.mem_cons_of_mem _ (List.mem_filter.mpr ⟨hm, ?_⟩))
    simp only [Bool.and_eq_true, Bool.not_eq_true', beq_eq_false_iff_ne, ne_eq, Bool.and_eq_false_iff]
    refine ⟨fun q => hji q.symm, ?_⟩
    by_cases hq : j + 1 = i
    · right
      intro hc
      cases w with
      | long x => exact hno j hq x hj
      | double x => exact hw x rfl
      | _ => simp [mx_cv, Value.category] at hc
    · exact Or.inl hq
/-- the locals with which a method begins -/
theorem mx_args_mem {g : MXG} : ∀ (as : List Value) (i j : Nat) (v : Value), (mx_sl as)[j]? = some v → (∀ x, v ≠ .double x) → (i + j, mx_cv g v) ∈ lv_args i (as.map (mx_cv g))
  | [], i, j, v, h, _ => by simp [mx_sl] at h
  | a :: t, i, j, v, h, hv => by
    have gen : ∀ (hsl : mx_sl (a :: t) = a :: mx_sl t) (hc : (mx_cv g a).category = 1), (i + j, mx_cv g v) ∈ lv_args i ((a :: t).map (mx_cv g)) := by
      intro hsl hc
      rw [hsl] at h
      cases j with
      | zero =>
        simp at h
        subst h
        exact List.mem_cons_self
      | succ n =>
        have h' : (mx_sl t)[n]? = some v := by simpa using h
        have := mx_args_mem (g := g) t (i + 1) n v h' hv
        simp only [List.map_cons, lv_args, hc]
        rw [show i + (n + 1) = i + 1 + n by omega]
        exact List.mem_cons_of_mem _ this
    cases a with
    | long x =>
      simp only [mx_sl] at h
      match j, h with
      | 0, h => simp at h; subst h; exact List.mem_cons_self
      | 1, h => simp at h; subst h; exact absurd rfl (hv 0)
      | n + 2, h =>
        have h' : (mx_sl t)[n]? = some v := by simpa using h
        have := mx_args_mem (g := g) t (i + 2) n v h' hv
        simp only [List.map_cons, lv_args]
        rw [show i + (n + 2) = i + 2 + n by omega]
        exact List.mem_cons_of_mem _ this
    | double x =>
      simp only [mx_sl] at h
      match j, h with
      | 0, h => simp at h; subst h; exact absurd rfl (hv x)
      | 1, h => simp at h; subst h; exact absurd rfl (hv 0)
      | n + 2, h =>
        have h' : (mx_sl t)[n]? = some v := by simpa using h
        have := mx_args_mem (g := g) t (i + 2) n v h' hv
        simp only [List.map_cons, lv_args]
        rw [show i + (n + 2) = i + 2 + n by omega]
        exact List.mem_cons_of_mem _ this
    | int x => exact gen rfl rfl
    | float x => exact gen rfl rfl
    | null => exact gen rfl rfl
    | ref x => exact gen rfl rfl
    | retAddr x => exact gen rfl rfl
theorem mx_sl_len (g : MXG) : ∀ as : List Value, (lg_sl (as.map (mx_cv g))).length = (mx_sl as).length
  | [] => rfl
  | a :: t => by
    have ih := mx_sl_len g t
    have e : lg_sl ((a :: t).map (mx_cv g)) = (if (mx_cv g a).category = 2 then [.val (mx_cv g a), .second] else [.val (mx_cv g a)]) ++ lg_sl (t.map (mx_cv g)) := by simp [lg_sl]
    rw [e, List.length_append, ih]
    cases a <;> simp [mx_sl, mx_cv, Value.category] <;> omega
theorem mx_entry {g : MXG} {as : List Value} {n : Nat} (h : (mx_sl as).length ≤ n) : mx_lv g ((lg_sl (as.map (mx_cv g)) ++ List.replicate (n - (lg_sl (as.map (mx_cv g))).length) Slot.unset).toArray) n (mx_en as n) := by
  have hl := mx_sl_len g as
  have h0 := lv_entry (as.map (mx_cv g)) (n := n) (by rw [hl]; exact h)
  refine ⟨h0.1, by simp [mx_en]; omega, h0.2.1, fun i v hi hv => ?_⟩
  unfold mx_en at hi
  by_cases hlt : i < (mx_sl as).length
  · rw [List.getElem?_append_left hlt] at hi
    have := mx_args_mem (g := g) as 0 i v hi hv
    rw [Nat.zero_add] at this
    exact h0.2.2 _ this
  · rw [List.getElem?_append_right (by omega)] at hi
    exact absurd (List.eq_of_mem_replicate (List.mem_of_getElem? hi)) (hv 0)
