/-! THE SIMULATION: a run of the abstract machine is a run of the real one -/
theorem mx_m0 {h : MXH} : h.length ≤ h.length ∧ mx_sz h ≤ mx_sz h := ⟨Nat.le_refl _, Nat.le_refl _⟩
theorem mx_mset {h : MXH} {a : Nat} {x x' : va_E} (ha : h[a]? = some x) (hw : mx_w x' = mx_w x) : h.length ≤ (h.set a x').length ∧ mx_sz h ≤ mx_sz (h.set a x') := by
  rw [List.length_set, mx_sz_set ha hw]; exact mx_m0
theorem mx_mpush {h : MXH} {x : va_E} : h.length ≤ (h ++ [x]).length ∧ mx_sz h ≤ mx_sz (h ++ [x]) := by
  rw [List.length_append, mx_sz_push]; exact ⟨Nat.le_add_right _ _, Nat.le_add_right _ _⟩
set_option maxHeartbeats 8000000 in
set_option maxRecDepth 100000 in
theorem mx_mono {X : MXX} {d k pc pc' : Nat} {i : Instr} {l st l' st' : List Value} {h h' : MXH} (hs : mx_step X d k pc i l st h = some (.inl (pc', l', st', h'))) : h.length ≤ h'.length ∧ mx_sz h ≤ mx_sz h' := by
  cases i
  case newarray a =>
    cases a <;> simp only [mx_step, mx_newarr] at hs <;> repeat' split at hs
    all_goals first | (cases hs; done) | (obtain ⟨-, -, -, rfl⟩ := mx_q_nx hs; exact mx_mpush)
  all_goals simp only [mx_step, mx_ld, mx_sto, mx_o2, mx_o1, mx_l2, mx_ls, mx_br, mx_to, mx_iald, mx_bald, mx_iast, mx_bast, mx_aald, mx_aast, mx_alen, mx_getf, mx_putf, mx_new, mx_anew, mx_inst, mx_copy, mx_mth, mx_cS, mx_cI, mx_cV, mx_go, mx_ret, cond_eq_ite] at hs
  all_goals repeat' split at hs
  all_goals first | (cases hs; done) | (obtain ⟨-, -, -, rfl⟩ := mx_q_nx hs; first | exact mx_m0 | exact mx_mpush | exact mx_mset (by assumption) rfl | exact mx_mset (by assumption) (by simp [mx_w]))
def mx_rr (i : Instr) (r : Option Value) (em : MXM) : Prop := (i = .ireturn ∧ ∃ v ty, r = some (.int v) ∧ em.2.2.2.1 = some ty ∧ narrow ty (.int v) = .int v) ∨ (i = .areturn ∧ ∃ v C, r = some v ∧ mx_isA v = true ∧ em.2.2.2.1 = some (.object C)) ∨ (i = .return_ ∧ r = none ∧ em.2.2.2.1 = none)
theorem mx_nx_nr {pc : Nat} {l st : List Value} {h : MXH} {r : Option Value} (hs : mx_nx pc l st h = some (.inr (.inl r))) : False := by simp [mx_nx] at hs
theorem mx_nx_nc {pc : Nat} {l st : List Value} {h : MXH} {q : Nat × List Value × List Value} (hs : mx_nx pc l st h = some (.inr (.inr q))) : False := by simp [mx_nx] at hs
set_option maxHeartbeats 8000000 in
set_option maxRecDepth 100000 in
theorem mx_q_ret {X : MXX} {d k pc : Nat} {i : Instr} {l st : List Value} {h : MXH} {r : Option Value} {em : MXM} (hM : mx_M[k]? = some em) (hs : mx_step X d k pc i l st h = some (.inr (.inl r))) : mx_rr i r em ∧ st = r.toList := by
  have hrt := mx_rt_eq hM
  cases i
  case newarray a =>
    exfalso
    cases a <;> simp only [mx_step, mx_newarr] at hs <;> repeat' split at hs
    all_goals first | (cases hs; done) | exact mx_nx_nr hs
  case ireturn =>
    simp only [mx_step] at hs
    split at hs
    · unfold mx_ret at hs
      rw [hrt] at hs
      split at hs
      · rename_i ty hty
        split at hs
        · rename_i hn
          cases hs
          exact ⟨Or.inl ⟨rfl, _, ty, rfl, hty, hn⟩, rfl⟩
        · cases hs
      · cases hs
    · cases hs
  case areturn =>
    simp only [mx_step] at hs
    rw [hrt] at hs
    split at hs
    · rename_i v C hC
      rw [cond_eq_ite] at hs
      split at hs
      · rename_i hv
        cases hs
        exact ⟨Or.inr (Or.inl ⟨rfl, v, C, rfl, hv, hC⟩), rfl⟩
      · cases hs
    · cases hs
  case return_ =>
    simp only [mx_step] at hs
    rw [hrt] at hs
    split at hs
    · rename_i hC
      cases hs
      exact ⟨Or.inr (Or.inr ⟨rfl, rfl, hC⟩), rfl⟩
    · cases hs
  all_goals exfalso
  all_goals simp only [mx_step, mx_ld, mx_sto, mx_o2, mx_o1, mx_l2, mx_ls, mx_br, mx_to, mx_iald, mx_bald, mx_iast, mx_bast, mx_aald, mx_aast, mx_alen, mx_getf, mx_putf, mx_new, mx_anew, mx_inst, mx_copy, mx_mth, mx_cS, mx_cI, mx_cV, mx_go, cond_eq_ite] at hs
  all_goals repeat' split at hs
  all_goals first | (cases hs; done) | exact mx_nx_nr hs
/-- an instruction that calls -/
def mx_isInv (i : Instr) : Prop := (∃ idx, i = .invokestatic idx) ∨ (∃ idx, i = .invokespecial idx) ∨ (∃ idx, i = .invokevirtual idx)
set_option maxHeartbeats 8000000 in
set_option maxRecDepth 100000 in
theorem mx_q_inv {X : MXX} {d k pc : Nat} {i : Instr} {l st : List Value} {h : MXH} {q : Nat × List Value × List Value} (hs : mx_step X d k pc i l st h = some (.inr (.inr q))) : mx_isInv i := by
  cases i
  case newarray a =>
    exfalso
    cases a <;> simp only [mx_step, mx_newarr] at hs <;> repeat' split at hs
    all_goals first | (cases hs; done) | exact mx_nx_nc hs
  case invokestatic idx => exact Or.inl ⟨idx, rfl⟩
  case invokespecial idx => exact Or.inr (Or.inl ⟨idx, rfl⟩)
  case invokevirtual idx => exact Or.inr (Or.inr ⟨idx, rfl⟩)
  all_goals exfalso
  all_goals simp only [mx_step, mx_ld, mx_sto, mx_o2, mx_o1, mx_l2, mx_ls, mx_br, mx_to, mx_iald, mx_bald, mx_iast, mx_bast, mx_aald, mx_aast, mx_alen, mx_getf, mx_putf, mx_new, mx_anew, mx_inst, mx_ret, cond_eq_ite] at hs
  all_goals repeat' split at hs
  all_goals first | (cases hs; done) | exact mx_nx_nc hs
theorem mx_run_mono {X : MXX} : ∀ {n d k pc : Nat} {l st : List Value} {h h' : MXH} {r : Option Value}, mx_run X n d k pc l st h = some (r, h') → h.length ≤ h'.length ∧ mx_sz h ≤ mx_sz h'
  | 0, d, k, pc, l, st, h, h', r, hr => by cases hr
  | n + 1, d, k, pc, l, st, h, h', r, hr => by
    unfold mx_run at hr
    split at hr
    · cases hr
    · rename_i i len hat
      split at hr
      · cases hr
      · rename_i pc' l' st' h1 hs
        have h1 := mx_mono hs
        have h2 := mx_run_mono hr
        exact ⟨Nat.le_trans h1.1 h2.1, Nat.le_trans h1.2 h2.2⟩
      · cases hr
        exact mx_m0
      · split at hr
        · cases hr
        · split at hr
          · cases hr
          · rename_i r1 h1 hr1
            have h1 := mx_run_mono hr1
            have h2 := mx_run_mono hr
            exact ⟨Nat.le_trans h1.1 h2.1, Nat.le_trans h1.2 h2.2⟩
