/-! what the tables say, as the rows of the kit want it -/
theorem mx_pk_mem {α : Type} : ∀ {t : List (Nat × α)} {k : Nat} {v : α}, mx_pk t k = some v → (k, v) ∈ t
  | [], k, v, h => by cases h
  | q :: t, k, v, h => by
    unfold mx_pk at h
    cases hb : Nat.beq q.1 k with
    | true =>
      rw [hb] at h
      have e1 : q.1 = k := Nat.eq_of_beq_eq_true hb
      have e2 : q.2 = v := Option.some.inj h
      rw [← e1, ← e2]
      exact List.mem_cons_self
    | false =>
      rw [hb] at h
      exact List.mem_cons_of_mem _ (mx_pk_mem h)
theorem mx_T_mem {w : Cond} (h : w ∈ lw_tbl) (hg : goodWord w = true) : w ∈ mx_T := List.mem_filter.mpr ⟨h, hg⟩
theorem mx_T_sub {w : Cond} (h : w ∈ mx_T) : w ∈ lw_tbl ∧ goodWord w = true := List.mem_filter.mp h
theorem mx_at_gen (M : List MXM) (hdk : ∀ e ∈ M, mx_dk e.2.1 e.2.2.2.2.2) {k pc n : Nat} {i : Instr} (h : (match M[k]? with
  | some e => mx_pk e.2.2.2.2.2 pc
  | none => none) = some (i, n)) : ∃ e, M[k]? = some e ∧ decode e.2.1 pc = .ok (i, n) ∧ (pc, i, n) ∈ e.2.2.2.2.2 := by
  cases hM : M[k]? with
  | none => rw [hM] at h; cases h
  | some e =>
    rw [hM] at h
    have hm := mx_pk_mem (t := e.2.2.2.2.2) h
    have h2 := hdk e (List.mem_of_getElem? hM) (pc, i, n) hm
    exact ⟨e, rfl, h2, hm⟩
theorem mx_at_mem {k pc n : Nat} {i : Instr} (h : mx_at k pc = some (i, n)) : ∃ e, mx_M[k]? = some e ∧ decode e.2.1 pc = .ok (i, n) ∧ (pc, i, n) ∈ e.2.2.2.2.2 := mx_at_gen mx_M mx_M_dk h
theorem mx_lk_mem {α : Type} {t : List (Nat × α)} {k idx : Nat} {v : α} (h : mx_lk t k idx = some v) : (mx_ow k * 10000 + idx, v) ∈ t ∧ (mx_ow k * 10000 + idx) / 10000 = mx_ow k ∧ (mx_ow k * 10000 + idx) % 10000 = idx := by
  unfold mx_lk at h
  split at h
  · exact ⟨mx_pk_mem h, by omega, by omega⟩
  · cases h
theorem mx_fd_ok {k idx j rc p ci sp : Nat} {cs : List (Nat × Nat)} (h : mx_fd k idx = some (j, rc, p, cs)) (hc : mx_pk cs ci = some sp) :
    ∃ (C : String) (T : u_T) (N : Nat), vwCl[ci]? = some (C, T, N) ∧ j < N ∧ Cond.fieldLink (mx_cn (mx_ow k)) idx (mx_cn rc) (T j).2.1 (T j).2.2.1 ∈ lw_tbl ∧ (mx_cn rc = (T j).1 ∨ Cond.sameField (mx_cn rc) (T j).1 (T j).2.1 (T j).2.2.1 ∈ lw_tbl) := by
  obtain ⟨hm, e1, e2⟩ := mx_lk_mem h
  have h1 := List.all_eq_true.mp mx_F_ok _ hm
  unfold mx_okF at h1
  have h2 := List.all_eq_true.mp h1 _ (mx_pk_mem hc)
  simp only at h2
  split at h2
  · cases h2
  · rename_i c hcc
    obtain ⟨C, T, N⟩ := c
    simp only [Bool.and_eq_true, Bool.or_eq_true, decide_eq_true_eq] at h2
    rw [e1, e2] at h2
    exact ⟨C, T, N, hcc, h2.1.1, List.mem_of_getElem? h2.1.2, h2.2.imp id (fun q => List.mem_of_getElem? q)⟩
theorem mx_cls_ws {q : vw_C} (hq : q ∈ vwCl) : ∀ w ∈ u_ws q.1 q.2.1 q.2.2, w ∈ mx_T := by
  intro w hw
  have h1 := List.all_eq_true.mp mx_W_ok q hq
  have h2 := List.all_eq_true.mp h1 w hw
  simp only [Bool.and_eq_true, decide_eq_true_eq] at h2
  exact mx_T_mem h2.1 h2.2
theorem mx_cls : ∀ {ci : Nat} {C : String} {T : u_T} {N : Nat}, vwCl[ci]? = some (C, T, N) → ∃ ty : Nat → FieldType, mx_tyL[ci]? = some ty ∧ (∀ w ∈ u_ws C T N, w ∈ mx_T) ∧ (∀ k, k < N → parseFieldDescriptor (T k).2.2.1 = some (ty k)) ∧ (∀ a, a < N → ∀ b, b < N → a ≠ b → (T a).2.1 ≠ (T b).2.1) ∧ C = mx_cn ci := by
  intro ci C T N hq
  have hws : ∀ w ∈ u_ws C T N, w ∈ mx_T := mx_cls_ws (q := (C, T, N)) (List.mem_of_getElem? hq)
  have hlt : ci < 13 := by
    have := (List.getElem?_eq_some_iff.mp hq).1
    simpa using this
  match ci, hlt, hq with
  | 0, _, hq => cases hq; exact ⟨tyX0, rfl, hws, tyX0_ok, nmX0, rfl⟩
  | 1, _, hq => cases hq; exact ⟨tyX1, rfl, hws, tyX1_ok, nmX1, rfl⟩
  | 2, _, hq => cases hq; exact ⟨tyX2, rfl, hws, tyX2_ok, nmX2, rfl⟩
  | 3, _, hq => cases hq; exact ⟨tyX3, rfl, hws, tyX3_ok, nmX3, rfl⟩
  | 4, _, hq => cases hq; exact ⟨tyX4, rfl, hws, tyX4_ok, nmX4, rfl⟩
  | 5, _, hq => cases hq; exact ⟨tyX5, rfl, hws, tyX5_ok, nmX5, rfl⟩
  | 6, _, hq => cases hq; exact ⟨tyX6, rfl, hws, tyX6_ok, nmX6, rfl⟩
  | 7, _, hq => cases hq; exact ⟨tyX7, rfl, hws, tyX7_ok, nmX7, rfl⟩
  | 8, _, hq => cases hq; exact ⟨tyX8, rfl, hws, tyX8_ok, nmX8, rfl⟩
  | 9, _, hq => cases hq; exact ⟨tyX9, rfl, hws, tyX9_ok, nmX9, rfl⟩
  | 10, _, hq => cases hq; exact ⟨tyX10, rfl, hws, tyX10_ok, nmX10, rfl⟩
  | 11, _, hq => cases hq; exact ⟨tyX11, rfl, hws, tyX11_ok, nmX11, rfl⟩
  | 12, _, hq => cases hq; exact ⟨tyX12, rfl, hws, tyX12_ok, nmX12, rfl⟩
  | n + 13, hlt, _ => omega
theorem mx_cls_new {ci : Nat} {C : String} {T : u_T} {N : Nat} (hq : vwCl[ci]? = some (C, T, N)) : Cond.instantiable C N ∈ lw_tbl ∧ Cond.initialized C ∈ lw_tbl := by
  have hlt : ci < 13 := by
    have := (List.getElem?_eq_some_iff.mp hq).1
    simpa using this
  cases hn : mx_NW[ci]? with
  | none =>
    have : mx_NW.length = 13 := rfl
    have := List.getElem?_eq_none_iff.mp hn
    omega
  | some r =>
    have hz : (vwCl.zip mx_NW)[ci]? = some ((C, T, N), r) := by rw [List.getElem?_zip_eq_some]; exact ⟨hq, hn⟩
    have h1 := List.all_eq_true.mp mx_NW_ok _ (List.mem_of_getElem? hz)
    simp only [Bool.and_eq_true, decide_eq_true_eq] at h1
    exact ⟨List.mem_of_getElem? h1.1, List.mem_of_getElem? h1.2⟩
theorem mx_cls_df {ci : Nat} {C : String} {T : u_T} {N : Nat} {ty : Nat → FieldType} {fs : List Value} (hq : vwCl[ci]? = some (C, T, N)) (ht : mx_tyL[ci]? = some ty) (hf : mx_dfL[ci]? = some fs) : (∀ j, j < N → defaultValue (ty j) = vp_V fs j) ∧ fs.length = N := by
  have hz : ((vwCl.zip mx_tyL).zip mx_dfL)[ci]? = some (((C, T, N), ty), fs) := by
    rw [List.getElem?_zip_eq_some]
    refine ⟨?_, hf⟩
    rw [List.getElem?_zip_eq_some]
    exact ⟨hq, ht⟩
  have h1 := List.all_eq_true.mp mx_D_ok _ (List.mem_of_getElem? hz)
  simp only [Bool.and_eq_true, decide_eq_true_eq] at h1
  refine ⟨fun j hj => ?_, h1.2⟩
  have h2 := List.all_eq_true.mp h1.1 j (List.mem_range.mpr hj)
  simp only [Bool.and_eq_true, decide_eq_true_eq] at h2
  exact h2.1
theorem mx_call_ok {k idx kd n : Nat} {qs : List MXQ} (h : mx_cl k idx = some (kd, n, qs)) {q : MXQ} (hq : q ∈ qs) : (∀ w ∈ mx_cw (mx_ow k) idx kd q, w ∈ mx_T) ∧ mx_cx kd n q = true := by
  unfold mx_cl at h
  split at h
  · rename_i t ht
    have h1 := List.all_eq_true.mp mx_CT_ok _ (mx_pk_mem ht)
    have h2 := List.all_eq_true.mp h1 _ (mx_pk_mem h)
    unfold mx_okC at h2
    have h3 := List.all_eq_true.mp h2 _ hq
    simp only [Bool.and_eq_true, decide_eq_true_eq] at h3
    refine ⟨fun w hw => ?_, h3.2⟩
    have hg := List.all_eq_true.mp h3.1.2 w hw
    have hm : some w ∈ (mx_cw (mx_ow k) idx kd q).map some := List.mem_map.mpr ⟨w, hw, rfl⟩
    rw [← h3.1.1] at hm
    obtain ⟨i, -, hi⟩ := List.mem_map.mp hm
    exact mx_T_mem (List.mem_of_getElem? hi) hg
  · cases h
