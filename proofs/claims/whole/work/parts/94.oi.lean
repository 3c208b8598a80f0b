/-! how large the heap grows -/
def SZ (h h' : MXH) : Prop := mx_sz h' + 1000 * h.length ≤ mx_sz h + 1000 * h'.length
theorem SZ.rf {h : MXH} : SZ h h := Nat.le_refl _
theorem SZ.tr {a b c : MXH} (h1 : SZ a b) (h2 : SZ b c) : SZ a c := by unfold SZ at *; omega
theorem SZ.set {h : MXH} {a : Nat} {x x' : va_E} (ha : h[a]? = some x) (hw : mx_w x' = mx_w x) : SZ h (h.set a x') := by
  unfold SZ
  rw [List.length_set, mx_sz_set ha hw]
  exact Nat.le_refl _
theorem SZ.push {h : MXH} {x : va_E} (hx : mx_w x ≤ 1000) : SZ h (h ++ [x]) := by
  unfold SZ
  rw [List.length_append, mx_sz_push]
  show mx_sz h + mx_w x + 1000 * h.length ≤ mx_sz h + 1000 * (h.length + 1)
  omega
theorem df_len : mx_dfL.all (fun fs => decide (fs.length ≤ 1000)) = true := by decide +kernel
theorem df_w {ci : Nat} {fs : List Value} (h : mx_dfL[ci]? = some fs) : mx_w (.inr (ci, fs)) ≤ 1000 := by
  have h1 := List.all_eq_true.mp df_len fs (List.mem_of_getElem? h)
  exact of_decide_eq_true h1
set_option maxHeartbeats 8000000 in
set_option maxRecDepth 100000 in
theorem sz_step {X : MXX} {d k pc pc' : Nat} {i : Instr} {l st l' st' : List Value} {h h' : MXH} (hs : mx_step X d k pc i l st h = some (.inl (pc', l', st', h'))) : SZ h h' := by
  cases i
  case newarray a =>
    cases a <;> simp only [mx_step, mx_newarr] at hs <;> repeat' split at hs
    all_goals first | (cases hs; done) | (obtain ⟨-, -, -, rfl⟩ := mx_q_nx hs; rename_i hq; exact SZ.push hq.2)
  case anewarray idx =>
    simp only [mx_step, mx_anew] at hs
    repeat' split at hs
    all_goals first | (cases hs; done) | (obtain ⟨-, -, -, rfl⟩ := mx_q_nx hs; rename_i hq; exact SZ.push hq.2)
  case new idx =>
    simp only [mx_step, mx_new] at hs
    repeat' split at hs
    all_goals first | (cases hs; done) | (obtain ⟨-, -, -, rfl⟩ := mx_q_nx hs; rename_i hq; exact SZ.push (df_w hq))
  all_goals simp only [mx_step, mx_ld, mx_sto, mx_o2, mx_o1, mx_l2, mx_ls, mx_br, mx_to, mx_iald, mx_bald, mx_iast, mx_bast, mx_aald, mx_aast, mx_alen, mx_getf, mx_putf, mx_inst, mx_copy, mx_mth, mx_cS, mx_cI, mx_cV, mx_go, mx_ret, cond_eq_ite] at hs
  all_goals repeat' split at hs
  all_goals first | (cases hs; done) | (obtain ⟨-, -, -, rfl⟩ := mx_q_nx hs; first | exact SZ.rf | exact SZ.set (by assumption) rfl | exact SZ.set (by assumption) (by simp [mx_w]))
theorem sz_run {X : MXX} : ∀ {n d k pc : Nat} {l st : List Value} {h h' : MXH} {r : Option Value}, mx_run X n d k pc l st h = some (r, h') → SZ h h'
  | 0, d, k, pc, l, st, h, h', r, hr => by cases hr
  | n + 1, d, k, pc, l, st, h, h', r, hr => by
    unfold mx_run at hr
    split at hr
    · cases hr
    · rename_i i len hat
      split at hr
      · cases hr
      · rename_i pc' l' st' h1 hs
        exact (sz_step hs).tr (sz_run hr)
      · cases hr
        exact SZ.rf
      · split at hr
        · cases hr
        · split at hr
          · cases hr
          · rename_i r1 h1 hr1
            exact (sz_run hr1).tr (sz_run hr)
theorem law_1 {X : MXX} (hX : X.1 ≤ 3072) : mx_law X := by
  obtain ⟨n, r, h', hr, rfl, hl⟩ := law_0 hX
  have s := sz_run hr
  unfold SZ at s
  have e : mx_sz ([] : MXH) = 0 := rfl
  have e2 : ([] : MXH).length = 0 := rfl
  rw [e, e2] at s
  exact ⟨n, h', hr, by omega, by omega⟩
