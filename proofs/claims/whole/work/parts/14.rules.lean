/-! RULES: what a run of the abstract machine comes to, instruction by instruction -/
abbrev MXP : Type := Option Value → MXH → Prop
def ex_ (X : MXX) (d k pc : Nat) (l st : List Value) (h : MXH) (Q : MXP) : Prop := ∃ n r h', mx_run X n d k pc l st h = some (r, h') ∧ Q r h'
def ev_ (X : MXX) (d k : Nat) (as : List Value) (h : MXH) (Q : MXP) : Prop := ex_ X d k 0 (mx_en as (mx_ml k)) [] h Q
theorem mx_run_up {X : MXX} : ∀ {n d k pc : Nat} {l st : List Value} {h : MXH} {q : Option Value × MXH}, mx_run X n d k pc l st h = some q → mx_run X (n + 1) d k pc l st h = some q
  | 0, d, k, pc, l, st, h, q, hr => by cases hr
  | n + 1, d, k, pc, l, st, h, q, hr => by
    rw [mx_run] at hr ⊢
    cases hat : mx_at k pc with
    | none => rw [hat] at hr; cases hr
    | some il =>
      obtain ⟨i, len⟩ := il
      rw [hat] at hr
      simp only at hr ⊢
      cases hs : mx_step X d k pc i l st h with
      | none => rw [hs] at hr; cases hr
      | some o =>
        rw [hs] at hr
        match o, hr with
        | .inl (pc', l', st', h'), hr => exact mx_run_up hr
        | .inr (.inl r), hr => exact hr
        | .inr (.inr (k', as, rest)), hr =>
          simp only at hr ⊢
          cases d with
          | zero => cases hr
          | succ d =>
            simp only at hr ⊢
            cases hr1 : mx_run X n d k' 0 (mx_en as (mx_ml k')) [] h with
            | none => rw [hr1] at hr; cases hr
            | some o1 =>
              rw [hr1] at hr
              rw [mx_run_up hr1]
              exact mx_run_up hr
theorem mx_run_le {X : MXX} {n n' d k pc : Nat} {l st : List Value} {h : MXH} {q : Option Value × MXH} (hn : n ≤ n') (hr : mx_run X n d k pc l st h = some q) : mx_run X n' d k pc l st h = some q := by
  induction hn with
  | refl => exact hr
  | step _ ih => exact mx_run_up ih
theorem ex_nx {X : MXX} {d k pc len pc' : Nat} {i : Instr} {l st l' st' : List Value} {h h' : MXH} {Q : MXP} (hat : mx_at k pc = some (i, len)) (hs : mx_step X d k pc i l st h = some (.inl (pc', l', st', h'))) : ex_ X d k pc l st h Q = ex_ X d k pc' l' st' h' Q := by
  refine propext ⟨fun ⟨n, r, h2, hr, hq⟩ => ?_, fun ⟨n, r, h2, hr, hq⟩ => ⟨n + 1, r, h2, ?_, hq⟩⟩
  · cases n with
    | zero => cases hr
    | succ n =>
      unfold mx_run at hr
      simp only [hat, hs] at hr
      exact ⟨n, r, h2, hr, hq⟩
  · unfold mx_run
    simp only [hat, hs]
    exact hr
theorem ex_ret {X : MXX} {d k pc len : Nat} {i : Instr} {l st : List Value} {h : MXH} {Q : MXP} {r : Option Value} (hat : mx_at k pc = some (i, len)) (hs : mx_step X d k pc i l st h = some (.inr (.inl r))) : ex_ X d k pc l st h Q = Q r h := by
  refine propext ⟨fun ⟨n, r, h2, hr, hq⟩ => ?_, fun hq => ⟨1, r, h, ?_, hq⟩⟩
  · cases n with
    | zero => cases hr
    | succ n =>
      unfold mx_run at hr
      simp only [hat, hs] at hr
      cases hr
      exact hq
  · unfold mx_run
    simp only [hat, hs]
theorem ex_no {X : MXX} {d k pc len : Nat} {i : Instr} {l st : List Value} {h : MXH} {Q : MXP} (hat : mx_at k pc = some (i, len)) (hs : mx_step X d k pc i l st h = none) : ex_ X d k pc l st h Q = False := by
  refine propext ⟨fun ⟨n, r, h2, hr, hq⟩ => ?_, fun hq => hq.elim⟩
  cases n with
  | zero => cases hr
  | succ n =>
    unfold mx_run at hr
    simp only [hat, hs] at hr
    cases hr
theorem ex_call {X : MXX} {d k pc len k' : Nat} {i : Instr} {l st as rest : List Value} {h : MXH} {Q : MXP} (hat : mx_at k pc = some (i, len)) (hs : mx_step X (d + 1) k pc i l st h = some (.inr (.inr (k', as, rest)))) : ex_ X (d + 1) k pc l st h Q = ev_ X d k' as h (fun r h' => ex_ X (d + 1) k (pc + 3) l (r.toList ++ rest) h' Q) := by
  refine propext ⟨fun ⟨n, r, h2, hr, hq⟩ => ?_, fun ⟨n, r, h2, hr, n2, r2, h3, hr2, hq⟩ => ⟨n + n2 + 1, r2, h3, ?_, hq⟩⟩
  · cases n with
    | zero => cases hr
    | succ n =>
      unfold mx_run at hr
      simp only [hat, hs] at hr
      split at hr
      · cases hr
      · rename_i r1 h1 hr1
        exact ⟨n, r1, h1, hr1, n, r, h2, hr, hq⟩
  · unfold mx_run
    simp only [hat, hs]
    rw [mx_run_le (Nat.le_add_right n n2) hr]
    exact mx_run_le (Nat.le_add_left n2 n) hr2
/-- more may be asked of the end -/
theorem ex_mono {X : MXX} {d k pc : Nat} {l st : List Value} {h : MXH} {Q Q' : MXP} (hq : ∀ r h', Q r h' → Q' r h') (hr : ex_ X d k pc l st h Q) : ex_ X d k pc l st h Q' := by
  obtain ⟨n, r, h', h1, h2⟩ := hr
  exact ⟨n, r, h', h1, hq r h' h2⟩
theorem ev_mono {X : MXX} {d k : Nat} {as : List Value} {h : MXH} {Q Q' : MXP} (hq : ∀ r h', Q r h' → Q' r h') (hr : ev_ X d k as h Q) : ev_ X d k as h Q' := ex_mono hq hr
/-- one answer known: all is known -/
theorem ev_det {X : MXX} {d k : Nat} {as : List Value} {h : MXH} {r0 : Option Value} {h0 : MXH} (hr : ev_ X d k as h (fun r h' => r = r0 ∧ h' = h0)) (Q : MXP) : ev_ X d k as h Q = Q r0 h0 := by
  obtain ⟨n, r, h', h1, rfl, rfl⟩ := hr
  refine propext ⟨fun ⟨n2, r2, h2, hr2, hq⟩ => ?_, fun hq => ⟨n, _, _, h1, hq⟩⟩
  have e1 := mx_run_le (Nat.le_add_right n n2) h1
  have e2 := mx_run_le (Nat.le_add_left n2 n) hr2
  rw [e1] at e2
  cases e2
  exact hq
/-! reads and writes of cells, as whole functions -/
def mx_nl : Value → Bool
  | .long _ => false
  | _ => true
def mx_pv (l : List Value) (n : Nat) : Bool := match n with
  | 0 => true
  | j + 1 => mx_nl (l.getD j .null)
/-- a field of an object -/
def gv_ (h : MXH) (a j : Nat) : Value := match h[a]? with
  | some (.inr (_, fs)) => fs.getD j .null
  | _ => .null
def gk_ (h : MXH) (a j : Nat) (cs : List (Nat × Nat)) : Bool := match h[a]? with
  | some (.inr (ci, fs)) => (mx_pk cs ci).isSome && decide (j < fs.length)
  | _ => false
def pf_ (h : MXH) (a j : Nat) (v : Value) : MXH := match h[a]? with
  | some (.inr (ci, fs)) => h.set a (.inr (ci, fs.set j v))
  | _ => h
def pk_ (k : Nat) (h : MXH) (a j : Nat) (v : Value) (cs : List (Nat × Nat)) : Bool := match h[a]? with
  | some (.inr (ci, fs)) => (match mx_pk cs ci, mx_ftT ci j with
    | some _, some (ty, fin, dc) => mx_fit ty v && decide (j < fs.length) && (!fin || (mx_isInit k && decide (dc = mx_cn (mx_ow k))))
    | _, _ => false)
  | _ => false
/-- rows of ints -/
def ia_ (h : MXH) (a : Nat) (i : Int32) : Int32 := match h[a]? with
  | some (.inl (0, _, .inl f)) => f i.toNatClampNeg
  | _ => 0
def ik_ (h : MXH) (a : Nat) (i : Int32) : Bool := match h[a]? with
  | some (.inl (0, n, .inl _)) => mx_in i n
  | _ => false
def is_ (h : MXH) (a : Nat) (i x : Int32) : MXH := match h[a]? with
  | some (.inl (0, n, .inl f)) => h.set a (.inl (0, n, .inl (upd f i.toNatClampNeg x)))
  | _ => h
/-- rows of truth values -/
def ba_ (h : MXH) (a : Nat) (i : Int32) : Int32 := match h[a]? with
  | some (.inl (1, _, .inl f)) => f i.toNatClampNeg
  | _ => 0
def bk_ (h : MXH) (a : Nat) (i : Int32) : Bool := match h[a]? with
  | some (.inl (1, n, .inl _)) => mx_in i n
  | _ => false
def bs_ (h : MXH) (a : Nat) (i x : Int32) : MXH := match h[a]? with
  | some (.inl (1, n, .inl f)) => h.set a (.inl (1, n, .inl (upd f i.toNatClampNeg (vp_nar .boolean x))))
  | _ => h
/-- rows of references -/
def ra_ (h : MXH) (a : Nat) (i : Int32) : Option Nat := match h[a]? with
  | some (.inl (_, _, .inr (.inr (.inr (.inr f))))) => f i.toNatClampNeg
  | _ => none
def rk_ (h : MXH) (a : Nat) (i : Int32) : Bool := match h[a]? with
  | some (.inl (kd, n, .inr (.inr (.inr (.inr _))))) => mx_in i n && (mx_cmp kd).isSome
  | _ => false
def rs_ (h : MXH) (a : Nat) (i : Int32) (v : Option Nat) : MXH := match h[a]? with
  | some (.inl (kd, n, .inr (.inr (.inr (.inr f))))) => h.set a (.inl (kd, n, mx_rfs (va_up f i.toNatClampNeg v)))
  | _ => h
def rx_ (h : MXH) (a : Nat) (i : Int32) (v : Nat) : Bool := match h[a]? with
  | some (.inl (kd, n, .inr (.inr (.inr (.inr _))))) => (match h[v]?, mx_cmp kd with
    | some (.inr (ci, _)), some cc => mx_in i n && mx_sub ci cc
    | _, _ => false)
  | _ => false
/-- how long a row of ints is -/
def al_ (h : MXH) (a : Nat) : Option Nat := match h[a]? with
  | some (.inl (0, n, .inl _)) => some n
  | _ => none
/-- the class of an object -/
def co_ (h : MXH) (a : Nat) : Option Nat := match h[a]? with
  | some (.inr (ci, _)) => some ci
  | _ => none
def ck_ (h : MXH) (a b : Nat) (sp dp n : Int32) : Bool := match h[b]?, h[a]? with
  | some (.inl (0, n0, .inl _)), some (.inl (0, n1, .inl _)) => decide (0 ≤ n ∧ 0 ≤ dp ∧ 0 ≤ sp ∧ sp.toNatClampNeg + n.toNatClampNeg ≤ n0 ∧ dp.toNatClampNeg + n.toNatClampNeg ≤ n1)
  | _, _ => false
def cs_ (h : MXH) (a b : Nat) (sp dp n : Int32) : MXH := match h[b]?, h[a]? with
  | some (.inl (0, _, .inl f)), some (.inl (0, n1, .inl g)) => h.set a (.inl (0, n1, .inl (va_cpy f g sp.toNatClampNeg dp.toNatClampNeg n.toNatClampNeg)))
  | _, _ => h
section MXR
variable {X : MXX} {d k pc len : Nat} {l st : List Value} {h : MXH} {Q : MXP}
theorem R_aload_n {n : Fin 4} {v : Value} (hat : mx_at k pc = some (.aload_n n, len)) (hl : l[n.val]? = some v) : ex_ X d k pc l st h Q = (mx_isA v = true ∧ ex_ X d k (pc + 1) l (v :: st) h Q) := by
  cases hv : mx_isA v with
  | true => rw [ex_nx hat (show mx_step X d k pc (.aload_n n) l st h = some (.inl (pc + 1, l, v :: st, h)) by simp [mx_step, mx_ld, hl, hv, mx_nx])]; simp
  | false => rw [ex_no hat (show mx_step X d k pc (.aload_n n) l st h = none by simp [mx_step, mx_ld, hl, hv])]; simp
theorem R_aload {n : Nat} {v : Value} (hat : mx_at k pc = some (.aload n, len)) (hl : l[n]? = some v) : ex_ X d k pc l st h Q = (mx_isA v = true ∧ ex_ X d k (pc + 2) l (v :: st) h Q) := by
  cases hv : mx_isA v with
  | true => rw [ex_nx hat (show mx_step X d k pc (.aload n) l st h = some (.inl (pc + 2, l, v :: st, h)) by simp [mx_step, mx_ld, hl, hv, mx_nx])]; simp
  | false => rw [ex_no hat (show mx_step X d k pc (.aload n) l st h = none by simp [mx_step, mx_ld, hl, hv])]; simp
theorem R_st {ok : Value → Bool} {n w : Nat} {v : Value} {i : Instr} (hat : mx_at k pc = some (i, len)) (hs : ∀ l st, mx_step X d k pc i l st h = mx_sto l n (pc + w) st h ok) (hn : n < l.length) : ex_ X d k pc l (v :: st) h Q = (ok v = true ∧ mx_pv l n = true ∧ ex_ X d k (pc + w) (l.set n v) st h Q) := by
  have key : mx_st l n v = if mx_pv l n = true then some (l.set n v) else none := by
    unfold mx_st
    rw [if_pos hn]
    cases n with
    | zero => rfl
    | succ j =>
      have hj : j < l.length := by omega
      simp only [mx_pv, List.getD_eq_getElem?_getD, List.getElem?_eq_getElem hj, Option.getD_some]
      split
      · rename_i x hx
        have hx : l[j] = .long x := Option.some.inj hx
        simp [hx, mx_nl]
      · rename_i hx
        have : mx_nl l[j] = true := by
          cases hl : l[j] with
          | long x => exact absurd (by rw [hl]) (hx x)
          | _ => rfl
        simp [this]
  cases hv : ok v with
  | false =>
    rw [ex_no hat (by rw [hs]; simp [mx_sto, hv])]
    simp
  | true =>
    by_cases hc : mx_pv l n = true
    · rw [if_pos hc] at key
      rw [ex_nx hat (pc' := pc + w) (l' := l.set n v) (st' := st) (h' := h) (by rw [hs]; simp [mx_sto, hv, key, mx_nx])]
      simp only [true_and]
      rw [hc]
      simp
    · rw [if_neg hc] at key
      rw [ex_no hat (by rw [hs]; simp [mx_sto, hv, key])]
      simp only [Bool.not_eq_true] at hc
      rw [hc]
      simp
theorem R_iinc {n : Nat} {c : Int} {x : Int32} (hat : mx_at k pc = some (.iinc n c, len)) (hl : l[n]? = some (.int x)) : ex_ X d k pc l st h Q = (mx_pv l n = true ∧ ex_ X d k (pc + 3) (l.set n (.int (x + Int32.ofInt c))) st h Q) := by
  have hn : n < l.length := (List.getElem?_eq_some_iff.mp hl).1
  have key : mx_st l n (.int (x + Int32.ofInt c)) = if mx_pv l n = true then some (l.set n (.int (x + Int32.ofInt c))) else none := by
    unfold mx_st
    rw [if_pos hn]
    cases n with
    | zero => rfl
    | succ j =>
      have hj : j < l.length := by omega
      simp only [mx_pv, List.getD_eq_getElem?_getD, List.getElem?_eq_getElem hj, Option.getD_some]
      split
      · rename_i x hx
        have hx : l[j] = .long x := Option.some.inj hx
        simp [hx, mx_nl]
      · rename_i hx
        have : mx_nl l[j] = true := by
          cases hl : l[j] with
          | long x => exact absurd (by rw [hl]) (hx x)
          | _ => rfl
        simp [this]
  by_cases hc : mx_pv l n = true
  · rw [if_pos hc] at key
    rw [ex_nx hat (pc' := pc + 3) (l' := l.set n (.int (x + Int32.ofInt c))) (st' := st) (h' := h) (by simp [mx_step, hl, key, mx_nx]), hc]
    simp
  · rw [if_neg hc] at key
    rw [ex_no hat (by simp [mx_step, hl, key])]
    simp only [Bool.not_eq_true] at hc
    rw [hc]
    simp
theorem R_br {b : Bool} {off : Int} {tgt : Nat} {i : Instr} {st2 : List Value} (hat : mx_at k pc = some (i, len)) (hs : mx_step X d k pc i l st2 h = mx_br b pc off l st h) (ht : (pc : Int) + off = (tgt : Int)) : ex_ X d k pc l st2 h Q = if b = true then ex_ X d k tgt l st h Q else ex_ X d k (pc + 3) l st h Q := by
  cases b with
  | true =>
    rw [if_pos rfl]
    exact ex_nx hat (by rw [hs]; unfold mx_br; rw [if_pos (by omega)]; simp [mx_nx, ht])
  | false =>
    rw [if_neg (by decide)]
    exact ex_nx hat (by rw [hs]; unfold mx_br; rw [if_pos (by omega)]; simp [mx_nx])
theorem R_to {off : Int} {tgt : Nat} {i : Instr} {st2 : List Value} (hat : mx_at k pc = some (i, len)) (hs : mx_step X d k pc i l st2 h = mx_to pc off l st h) (ht : (pc : Int) + off = (tgt : Int)) : ex_ X d k pc l st2 h Q = ex_ X d k tgt l st h Q :=
  ex_nx hat (by rw [hs]; unfold mx_to; rw [if_pos (by omega)]; simp [mx_nx, ht])
theorem R_div {x y : Int32} (hat : mx_at k pc = some (.idiv, len)) : ex_ X d k pc l (.int y :: .int x :: st) h Q = (y ≠ 0 ∧ ex_ X d k (pc + 1) l (.int (x / y) :: st) h Q) := by
  by_cases hy : y = 0
  · rw [ex_no hat (by simp [mx_step, hy])]; simp [hy]
  · rw [ex_nx hat (show mx_step X d k pc .idiv l (.int y :: .int x :: st) h = some (.inl (pc + 1, l, .int (x / y) :: st, h)) by simp [mx_step, hy, mx_nx])]; simp [hy]
theorem R_rem {x y : Int32} (hat : mx_at k pc = some (.irem, len)) : ex_ X d k pc l (.int y :: .int x :: st) h Q = (y ≠ 0 ∧ ex_ X d k (pc + 1) l (.int (x - x / y * y) :: st) h Q) := by
  by_cases hy : y = 0
  · rw [ex_no hat (by simp [mx_step, hy])]; simp [hy]
  · rw [ex_nx hat (show mx_step X d k pc .irem l (.int y :: .int x :: st) h = some (.inl (pc + 1, l, .int (x - x / y * y) :: st, h)) by simp [mx_step, hy, mx_nx])]; simp [hy]
theorem R_getf {idx a j rc p : Nat} {cs : List (Nat × Nat)} (hat : mx_at k pc = some (.getfield idx, len)) (hf : mx_fd k idx = some (j, rc, p, cs)) : ex_ X d k pc l (.ref a :: st) h Q = (gk_ h a j cs = true ∧ ex_ X d k (pc + 3) l (gv_ h a j :: st) h Q) := by
  unfold gk_ gv_
  split
  · rename_i ci fs ha
    cases hc : mx_pk cs ci with
    | none =>
      rw [ex_no hat (by simp [mx_step, mx_getf, ha, hf, hc])]; simp [hc]
    | some sp =>
      by_cases hj : j < fs.length
      · rw [ex_nx hat (pc' := pc + 3) (l' := l) (st' := fs.getD j .null :: st) (h' := h) (by simp [mx_step, mx_getf, ha, hf, hc, List.getElem?_eq_getElem hj, List.getD_eq_getElem?_getD, mx_nx])]
        simp [hc, hj]
      · rw [ex_no hat (by simp [mx_step, mx_getf, ha, hf, hc, List.getElem?_eq_none (Nat.le_of_not_lt hj)])]
        simp [hc, hj]
  · rename_i ha
    rw [ex_no hat ?_]
    · simp
    · simp only [mx_step, mx_getf, hf]
      split
      · rename_i h1 h2 h3
        exact absurd h2 (ha _ _)
      · rfl
theorem R_getfx {idx : Nat} {w : UInt32} {v : Value} (hat : mx_at k pc = some (.getfield idx, len)) (hf : mx_xf k idx w = some v) : ex_ X d k pc l (.float w :: st) h Q = ex_ X d k (pc + 3) l (v :: st) h Q :=
  ex_nx hat (by simp [mx_step, mx_getf, hf, mx_nx])
theorem R_putf {idx a j rc p : Nat} {v : Value} {cs : List (Nat × Nat)} (hat : mx_at k pc = some (.putfield idx, len)) (hf : mx_fd k idx = some (j, rc, p, cs)) : ex_ X d k pc l (v :: .ref a :: st) h Q = (pk_ k h a j v cs = true ∧ ex_ X d k (pc + 3) l st (pf_ h a j v) Q) := by
  unfold pk_ pf_
  split
  · rename_i ci fs ha
    split
    · rename_i sp ty fin dc hc hft
      cases hok : (mx_fit ty v && decide (j < fs.length) && (!fin || (mx_isInit k && decide (dc = mx_cn (mx_ow k))))) with
      | true =>
        rw [ex_nx hat (pc' := pc + 3) (l' := l) (st' := st) (h' := h.set a (.inr (ci, fs.set j v))) (by simp only [mx_step, mx_putf, ha, hf, hc, hft, hok, mx_nx, cond_true])]
        simp
      | false =>
        rw [ex_no hat (by simp only [mx_step, mx_putf, ha, hf, hc, hft, hok, cond_false])]
        simp
    · rename_i hno
      rw [ex_no hat ?_]
      · simp
      · simp only [mx_step, mx_putf, ha, hf]
  · rename_i ha
    rw [ex_no hat ?_]
    · simp
    · simp only [mx_step, mx_putf, hf]
      split
      · rename_i h2 h3
        exact absurd h2 (ha _ _)
      · rfl
theorem R_iald {a : Nat} {i : Int32} (hat : mx_at k pc = some (.iaload, len)) : ex_ X d k pc l (.int i :: .ref a :: st) h Q = (ik_ h a i = true ∧ ex_ X d k (pc + 1) l (.int (ia_ h a i) :: st) h Q) := by
  unfold ik_ ia_
  split
  · rename_i n f ha
    cases hin : mx_in i n with
    | true => rw [ex_nx hat (pc' := pc + 1) (l' := l) (st' := .int (f i.toNatClampNeg) :: st) (h' := h) (by simp [mx_step, mx_iald, ha, hin, mx_nx])]; simp
    | false => rw [ex_no hat (by simp [mx_step, mx_iald, ha, hin])]; simp
  · rename_i ha
    rw [ex_no hat ?_]
    · simp
    · simp only [mx_step, mx_iald]
theorem R_ialdx {i : Int32} {w : UInt32} {n : Nat} {f : Nat → Int32} (hat : mx_at k pc = some (.iaload, len)) (hw : mx_xi X w = some (n, f)) : ex_ X d k pc l (.int i :: .float w :: st) h Q = (mx_in i n = true ∧ ex_ X d k (pc + 1) l (.int (f i.toNatClampNeg) :: st) h Q) := by
  cases hin : mx_in i n with
  | true => rw [ex_nx hat (pc' := pc + 1) (l' := l) (st' := .int (f i.toNatClampNeg) :: st) (h' := h) (by simp [mx_step, mx_iald, hw, hin, mx_nx])]; simp
  | false => rw [ex_no hat (by simp [mx_step, mx_iald, hw, hin])]; simp
theorem R_baldx {i : Int32} {w : UInt32} {n : Nat} {f : Nat → Int32} (hat : mx_at k pc = some (.baload, len)) (hw : mx_xb w = some (n, f)) : ex_ X d k pc l (.int i :: .float w :: st) h Q = (mx_in i n = true ∧ ex_ X d k (pc + 1) l (.int (f i.toNatClampNeg) :: st) h Q) := by
  cases hin : mx_in i n with
  | true => rw [ex_nx hat (pc' := pc + 1) (l' := l) (st' := .int (f i.toNatClampNeg) :: st) (h' := h) (by simp [mx_step, mx_bald, hw, hin, mx_nx])]; simp
  | false => rw [ex_no hat (by simp [mx_step, mx_bald, hw, hin])]; simp
theorem R_iast {a : Nat} {i x : Int32} (hat : mx_at k pc = some (.iastore, len)) : ex_ X d k pc l (.int x :: .int i :: .ref a :: st) h Q = (ik_ h a i = true ∧ ex_ X d k (pc + 1) l st (is_ h a i x) Q) := by
  unfold ik_ is_
  split
  · rename_i n f ha
    cases hin : mx_in i n with
    | true => rw [ex_nx hat (pc' := pc + 1) (l' := l) (st' := st) (h' := h.set a (.inl (0, n, .inl (upd f i.toNatClampNeg x)))) (by simp [mx_step, mx_iast, ha, hin, mx_nx])]; simp
    | false => rw [ex_no hat (by simp [mx_step, mx_iast, ha, hin])]; simp
  · rename_i ha
    rw [ex_no hat ?_]
    · simp
    · simp only [mx_step, mx_iast]
theorem R_bald {a : Nat} {i : Int32} (hat : mx_at k pc = some (.baload, len)) : ex_ X d k pc l (.int i :: .ref a :: st) h Q = (bk_ h a i = true ∧ ex_ X d k (pc + 1) l (.int (ba_ h a i) :: st) h Q) := by
  unfold bk_ ba_
  split
  · rename_i n f ha
    cases hin : mx_in i n with
    | true => rw [ex_nx hat (pc' := pc + 1) (l' := l) (st' := .int (f i.toNatClampNeg) :: st) (h' := h) (by simp [mx_step, mx_bald, ha, hin, mx_nx])]; simp
    | false => rw [ex_no hat (by simp [mx_step, mx_bald, ha, hin])]; simp
  · rename_i ha
    rw [ex_no hat ?_]
    · simp
    · simp only [mx_step, mx_bald]
theorem R_bast {a : Nat} {i x : Int32} (hat : mx_at k pc = some (.bastore, len)) : ex_ X d k pc l (.int x :: .int i :: .ref a :: st) h Q = (bk_ h a i = true ∧ ex_ X d k (pc + 1) l st (bs_ h a i x) Q) := by
  unfold bk_ bs_
  split
  · rename_i n f ha
    cases hin : mx_in i n with
    | true => rw [ex_nx hat (pc' := pc + 1) (l' := l) (st' := st) (h' := h.set a (.inl (1, n, .inl (upd f i.toNatClampNeg (vp_nar .boolean x))))) (by simp [mx_step, mx_bast, ha, hin, mx_nx])]; simp
    | false => rw [ex_no hat (by simp [mx_step, mx_bast, ha, hin])]; simp
  · rename_i ha
    rw [ex_no hat ?_]
    · simp
    · simp only [mx_step, mx_bast]
theorem R_aald {a : Nat} {i : Int32} (hat : mx_at k pc = some (.aaload, len)) : ex_ X d k pc l (.int i :: .ref a :: st) h Q = (rk_ h a i = true ∧ ex_ X d k (pc + 1) l (mx_vr (ra_ h a i) :: st) h Q) := by
  unfold rk_ ra_
  split
  · rename_i kd n f ha
    cases hin : (mx_in i n && (mx_cmp kd).isSome) with
    | true => rw [ex_nx hat (pc' := pc + 1) (l' := l) (st' := mx_vr (f i.toNatClampNeg) :: st) (h' := h) (by simp only [mx_step, mx_aald, ha, hin, mx_nx, cond_true])]; simp
    | false => rw [ex_no hat (by simp only [mx_step, mx_aald, ha, hin, cond_false])]; simp
  · rename_i ha
    rw [ex_no hat ?_]
    · simp
    · simp only [mx_step, mx_aald]
theorem R_aast {a v : Nat} {i : Int32} (hat : mx_at k pc = some (.aastore, len)) : ex_ X d k pc l (.ref v :: .int i :: .ref a :: st) h Q = (rx_ h a i v = true ∧ ex_ X d k (pc + 1) l st (rs_ h a i (some v)) Q) := by
  unfold rx_ rs_
  split
  · rename_i kd n f ha
    split
    · rename_i ci fs cc hv hcc
      cases hin : (mx_in i n && mx_sub ci cc) with
      | true => rw [ex_nx hat (pc' := pc + 1) (l' := l) (st' := st) (h' := h.set a (.inl (kd, n, mx_rfs (va_up f i.toNatClampNeg (some v))))) (by simp only [mx_step, mx_aast, ha, hv, hcc, hin, mx_nx, cond_true])]; simp
      | false => rw [ex_no hat (by simp only [mx_step, mx_aast, ha, hv, hcc, hin, cond_false])]; simp
    · rename_i hno
      rw [ex_no hat ?_]
      · simp
      · simp only [mx_step, mx_aast, ha]
  · rename_i ha
    rw [ex_no hat ?_]
    · simp
    · simp only [mx_step, mx_aast]
theorem R_aastN {a : Nat} {i : Int32} (hat : mx_at k pc = some (.aastore, len)) : ex_ X d k pc l (.null :: .int i :: .ref a :: st) h Q = (rk_ h a i = true ∧ ex_ X d k (pc + 1) l st (rs_ h a i none) Q) := by
  unfold rk_ rs_
  split
  · rename_i kd n f ha
    cases hin : (mx_in i n && (mx_cmp kd).isSome) with
    | true => rw [ex_nx hat (pc' := pc + 1) (l' := l) (st' := st) (h' := h.set a (.inl (kd, n, mx_rfs (va_up f i.toNatClampNeg none)))) (by simp only [mx_step, mx_aast, ha, hin, mx_nx, cond_true])]; simp
    | false => rw [ex_no hat (by simp only [mx_step, mx_aast, ha, hin, cond_false])]; simp
  · rename_i ha
    rw [ex_no hat ?_]
    · simp
    · simp only [mx_step, mx_aast]
theorem R_alen {a n : Nat} (hat : mx_at k pc = some (.arraylength, len)) (ha : al_ h a = some n) : ex_ X d k pc l (.ref a :: st) h Q = ex_ X d k (pc + 1) l (.int (Int32.ofNat n) :: st) h Q := by
  unfold al_ at ha
  split at ha
  · rename_i n2 f ha2
    cases ha
    exact ex_nx hat (by simp [mx_step, mx_alen, ha2, mx_nx])
  · cases ha
theorem R_alenx {w : UInt32} {n : Nat} {f : Nat → Int32} (hat : mx_at k pc = some (.arraylength, len)) (hw : mx_xi X w = some (n, f)) : ex_ X d k pc l (.float w :: st) h Q = ex_ X d k (pc + 1) l (.int (Int32.ofNat n) :: st) h Q :=
  ex_nx hat (by simp [mx_step, mx_alen, hw, mx_nx])
theorem R_newa {kd w : Nat} {i : Instr} {n : Int32} (hat : mx_at k pc = some (i, len)) (hs : ∀ st, mx_step X d k pc i l st h = mx_newarr kd (pc + w) l st h) (hn : 0 ≤ n ∧ n.toNatClampNeg ≤ 1000) : ex_ X d k pc l (.int n :: st) h Q = ex_ X d k (pc + w) l (.ref h.length :: st) (h ++ [.inl (kd, n.toNatClampNeg, .inl (fun _ => 0))]) Q :=
  ex_nx hat (by rw [hs]; simp [mx_newarr, hn, mx_nx])
theorem R_anew {idx ci p kd : Nat} {n : Int32} (hat : mx_at k pc = some (.anewarray idx, len)) (hc : mx_lk mx_CL k idx = some (ci, p)) (hk : mx_pk mx_AK ci = some kd) (hn : 0 ≤ n ∧ n.toNatClampNeg ≤ 1000) : ex_ X d k pc l (.int n :: st) h Q = ex_ X d k (pc + 3) l (.ref h.length :: st) (h ++ [.inl (kd, n.toNatClampNeg, mx_rfs (fun _ => none))]) Q :=
  ex_nx hat (by simp [mx_step, mx_anew, hc, hk, hn, mx_nx])
theorem R_new {idx ci p : Nat} {fs : List Value} (hat : mx_at k pc = some (.new idx, len)) (hc : mx_lk mx_CL k idx = some (ci, p)) (hf : mx_dfL[ci]? = some fs) : ex_ X d k pc l st h Q = ex_ X d k (pc + 3) l (.ref h.length :: st) (h ++ [.inr (ci, fs)]) Q :=
  ex_nx hat (by simp [mx_step, mx_new, hc, hf, mx_nx])
theorem R_inst {idx t p a ci : Nat} (hat : mx_at k pc = some (.instanceof idx, len)) (hc : mx_lk mx_CL k idx = some (t, p)) (ha : co_ h a = some ci) (hs : mx_selr ci = true ∧ mx_selr t = true) : ex_ X d k pc l (.ref a :: st) h Q = ex_ X d k (pc + 3) l (.int (bif mx_sub ci t then 1 else 0) :: st) h Q := by
  unfold co_ at ha
  split at ha
  · rename_i c2 fs ha2
    cases ha
    exact ex_nx hat (by simp [mx_step, mx_inst, hc, ha2, hs, mx_nx])
  · cases ha
theorem R_copy {idx a b n0 : Nat} {qs : List MXQ} {n dp sp : Int32} (hat : mx_at k pc = some (.invokestatic idx, len)) (hc : mx_cl k idx = some (7, n0, qs)) (hr : st.length ≤ 4) : ex_ X (d + 1) k pc l (.int n :: .int dp :: .ref a :: .int sp :: .ref b :: st) h Q = (ck_ h a b sp dp n = true ∧ ex_ X (d + 1) k (pc + 3) l st (cs_ h a b sp dp n) Q) := by
  unfold ck_ cs_
  split
  · rename_i n0 f n1 g hb ha
    by_cases hh : 0 ≤ n ∧ 0 ≤ dp ∧ 0 ≤ sp ∧ sp.toNatClampNeg + n.toNatClampNeg ≤ n0 ∧ dp.toNatClampNeg + n.toNatClampNeg ≤ n1
    · rw [ex_nx hat (pc' := pc + 3) (l' := l) (st' := st) (h' := h.set a (.inl (0, n1, .inl (va_cpy f g sp.toNatClampNeg dp.toNatClampNeg n.toNatClampNeg)))) (by
        simp only [mx_step, mx_cS, hc, mx_copy, hb, ha]
        rw [if_pos ⟨hh.1, hh.2.1, hh.2.2.1, hh.2.2.2.1, hh.2.2.2.2, by omega, hr⟩]
        rfl)]
      simp [hh]
    · rw [ex_no hat (by
        simp only [mx_step, mx_cS, hc, mx_copy, hb, ha]
        rw [if_neg (fun q => hh ⟨q.1, q.2.1, q.2.2.1, q.2.2.2.1, q.2.2.2.2.1⟩)])]
      simp [hh]
  · rename_i hno
    rw [ex_no hat ?_]
    · simp
    · simp only [mx_step, mx_cS, hc, mx_copy]
theorem R_max {idx n0 : Nat} {qs : List MXQ} {x y : Int32} (hat : mx_at k pc = some (.invokestatic idx, len)) (hc : mx_cl k idx = some (8, n0, qs)) (hr : st.length ≤ 4) : ex_ X (d + 1) k pc l (.int y :: .int x :: st) h Q = ex_ X (d + 1) k (pc + 3) l (.int (if x < y then y else x) :: st) h Q :=
  ex_nx hat (by simp [mx_step, mx_cS, hc, mx_mth, hr, mx_nx])
theorem R_min {idx n0 : Nat} {qs : List MXQ} {x y : Int32} (hat : mx_at k pc = some (.invokestatic idx, len)) (hc : mx_cl k idx = some (9, n0, qs)) (hr : st.length ≤ 4) : ex_ X (d + 1) k pc l (.int y :: .int x :: st) h Q = ex_ X (d + 1) k (pc + 3) l (.int (if y < x then y else x) :: st) h Q :=
  ex_nx hat (by simp [mx_step, mx_cS, hc, mx_mth, hr, mx_nx])
theorem R_obj {idx a n0 : Nat} {qs : List MXQ} (hat : mx_at k pc = some (.invokespecial idx, len)) (hc : mx_cl k idx = some (6, n0, qs)) (hr : st.length ≤ 4) : ex_ X (d + 1) k pc l (.ref a :: st) h Q = ex_ X (d + 1) k (pc + 3) l st h Q :=
  ex_nx hat (by simp [mx_step, mx_cI, hc, hr, mx_nx])
theorem R_vir {idx a n ci k' : Nat} {q : Nat × Nat × List Nat} {rows : List MXQ} {as rest st2 : List Value} (hat : mx_at k pc = some (.invokevirtual idx, len)) (hc : mx_cl k idx = some (4, n, rows)) (hn : n ≤ st2.length) (hd : st2.drop n = .ref a :: rest) (has : (st2.take n).reverse = as) (ha : co_ h a = some ci) (hp : mx_pk rows ci = some (k', q)) (hci : ci < 13) (hr : rest.length ≤ 4) (hm : (mx_sl (.ref a :: as)).length ≤ mx_ml k') : ex_ X (d + 1) k pc l st2 h Q = ev_ X d k' (.ref a :: as) h (fun r h' => ex_ X (d + 1) k (pc + 3) l (r.toList ++ rest) h' Q) := by
  unfold co_ at ha
  split at ha
  · rename_i c2 fs ha2
    cases ha
    refine ex_call hat ?_
    simp only [mx_step, mx_cV, hc, hd, ha2, hp]
    rw [if_pos hn, if_pos hci, has]
    simp [mx_go, hr, hm]
  · cases ha
theorem R_virx {idx n k' : Nat} {w : UInt32} {q : Nat × Nat × List Nat} {rows : List MXQ} {as rest st2 : List Value} (hat : mx_at k pc = some (.invokevirtual idx, len)) (hc : mx_cl k idx = some (4, n, rows)) (hn : n ≤ st2.length) (hd : st2.drop n = .float w :: rest) (has : (st2.take n).reverse = as) (hw : w = 2 ∨ w = 3) (hp : mx_pk rows 15 = some (k', q)) (hr : rest.length ≤ 4) (hm : (mx_sl (.float w :: as)).length ≤ mx_ml k') : ex_ X (d + 1) k pc l st2 h Q = ev_ X d k' (.float w :: as) h (fun r h' => ex_ X (d + 1) k (pc + 3) l (r.toList ++ rest) h' Q) := by
  refine ex_call hat ?_
  simp only [mx_step, mx_cV, hc, hd, hp]
  rw [if_pos hn, if_pos hw, has]
  simp [mx_go, hr, hm]
theorem R_sup {idx a n ci k' : Nat} {q0 : Nat} {q : Nat × Nat × List Nat} {rows : List MXQ} {as rest st2 : List Value} (hat : mx_at k pc = some (.invokespecial idx, len)) (hc : mx_cl k idx = some (3, n, (q0, k', q) :: rows)) (hn : n ≤ st2.length) (hd : st2.drop n = .ref a :: rest) (has : (st2.take n).reverse = as) (ha : co_ h a = some ci) (hci : ci < 13) (hr : rest.length ≤ 4) (hm : (mx_sl (.ref a :: as)).length ≤ mx_ml k') : ex_ X (d + 1) k pc l st2 h Q = ev_ X d k' (.ref a :: as) h (fun r h' => ex_ X (d + 1) k (pc + 3) l (r.toList ++ rest) h' Q) := by
  unfold co_ at ha
  split at ha
  · rename_i c2 fs ha2
    cases ha
    refine ex_call hat ?_
    simp only [mx_step, mx_cI, hc, hd, ha2]
    rw [if_pos hn, if_neg (by decide), if_pos trivial, if_pos hci, has]
    simp [mx_go, hr, hm]
  · cases ha
theorem R_tsw {df lo hi off : Int} {offs : Array Int} {x : Int32} {tgt : Nat} (hat : mx_at k pc = some (.tableswitch df lo hi offs, len)) (ho : (if x.toInt < lo ∨ hi < x.toInt then some df else offs[(x.toInt - lo).toNat]?) = some off) (ht : (pc : Int) + off = (tgt : Int)) : ex_ X d k pc l (.int x :: st) h Q = ex_ X d k tgt l st h Q := by
  refine R_to (off := off) hat ?_ ht
  simp only [mx_step]
  split at ho
  · rename_i hc
    cases ho
    rw [if_pos hc]
  · rename_i hc
    rw [if_neg hc, ho]
theorem R_lsw {df off : Int} {ps : Array (Int × Int)} {x : Int32} {tgt : Nat} (hat : mx_at k pc = some (.lookupswitch df ps, len)) (hp : (ps.toList.zip (ps.toList.drop 1)).all (fun (a, next) => a.1 < next.1) = true) (ho : Op.lookupswitch.offset ps.toList df x.toInt = off) (ht : (pc : Int) + off = (tgt : Int)) : ex_ X d k pc l (.int x :: st) h Q = ex_ X d k tgt l st h Q := by
  refine R_to (off := off) hat ?_ ht
  simp only [mx_step]
  rw [if_pos hp, ho]
end MXR
