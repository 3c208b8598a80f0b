/-! ONE STEP: what the abstract machine does at an instruction, the real one does -/
def mx_lenok (i : Instr) (n : Nat) : Bool := match i with
  | .iconst _ => n == 1
  | .bipush _ => n == 2
  | .sipush _ => n == 3
  | .lconst _ => n == 1
  | .ldc _ => n == 2
  | .ldc_w _ => n == 3
  | .ldc2_w _ => n == 3
  | .iload_n _ => n == 1
  | .iload _ => n == 2
  | .lload_n _ => n == 1
  | .lload _ => n == 2
  | .aload_n _ => n == 1
  | .aload _ => n == 2
  | .istore_n _ => n == 1
  | .istore _ => n == 2
  | .astore_n _ => n == 1
  | .astore _ => n == 2
  | .iinc _ _ => n == 3
  | .ifCond _ _ => n == 3
  | .if_icmp _ _ => n == 3
  | .ifnull _ => n == 3
  | .goto _ => n == 3
  | .tableswitch _ _ _ _ => true
  | .lookupswitch _ _ => true
  | .newarray _ => n == 2
  | .anewarray _ => n == 3
  | .new _ => n == 3
  | .instanceof _ => n == 3
  | .getfield _ => n == 3
  | .putfield _ => n == 3
  | .getstatic _ => n == 3
  | .invokestatic _ => n == 3
  | .invokespecial _ => n == 3
  | .invokevirtual _ => n == 3
  | _ => n == 1
set_option maxRecDepth 100000 in
theorem mx_len_ok : mx_M.all (fun e => e.2.2.2.2.2.all (fun q => mx_lenok q.2.1 q.2.2)) = true := by decide +kernel
theorem mx_len_at {k : Nat} {em : MXM} {pc n : Nat} {i : Instr} (hM : mx_M[k]? = some em) (hm : (pc, i, n) ∈ em.2.2.2.2.2) : mx_lenok i n = true :=
  List.all_eq_true.mp (List.all_eq_true.mp mx_len_ok em (List.mem_of_getElem? hM)) _ hm
theorem mx_ow_eq {k : Nat} {em : MXM} (hM : mx_M[k]? = some em) : mx_ow k = em.2.2.2.2.1 := by unfold mx_ow; rw [hM]
theorem mx_rt_eq {k : Nat} {em : MXM} (hM : mx_M[k]? = some em) : mx_rt k = em.2.2.2.1 := by unfold mx_rt; rw [hM]
theorem mx_ml_eq {k : Nat} {em : MXM} (hM : mx_M[k]? = some em) : mx_ml k = em.2.2.1 := by unfold mx_ml; rw [hM]
theorem mx_vp {i : Int32} {n : Nat} (h : mx_in i n = true) : vp_in i n := by
  unfold mx_in at h
  simp only [Bool.and_eq_true, decide_eq_true_eq] at h
  rintro (q | q)
  · exact absurd q (Int32.not_lt.mpr h.1)
  · omega
theorem mx_q_nx {pc pc' : Nat} {l st l' st' : List Value} {h h' : MXH} (hs : mx_nx pc l st h = some (.inl (pc', l', st', h'))) : pc' = pc ∧ l' = l ∧ st' = st ∧ h' = h := by
  simp only [mx_nx, Option.some.injEq, Sum.inl.injEq, Prod.mk.injEq] at hs
  exact ⟨hs.1.symm, hs.2.1.symm, hs.2.2.1.symm, hs.2.2.2.symm⟩
theorem mx_q_to {pc pc' : Nat} {off : Int} {l st l' st' : List Value} {h h' : MXH} (hs : mx_to pc off l st h = some (.inl (pc', l', st', h'))) : (pc : Int) + off = (pc' : Int) ∧ l' = l ∧ st' = st ∧ h' = h := by
  unfold mx_to at hs
  split at hs
  · rename_i h0
    obtain ⟨rfl, r⟩ := mx_q_nx hs
    exact ⟨by omega, r⟩
  · cases hs
theorem mx_q_br {b : Bool} {pc pc' : Nat} {off : Int} {l st l' st' : List Value} {h h' : MXH} (hs : mx_br b pc off l st h = some (.inl (pc', l', st', h'))) : ∃ tgt : Nat, (pc : Int) + off = (tgt : Int) ∧ ((b = true ∧ pc' = tgt) ∨ (b = false ∧ pc' = pc + 3)) ∧ l' = l ∧ st' = st ∧ h' = h := by
  unfold mx_br at hs
  split at hs
  · rename_i h0
    refine ⟨((pc : Int) + off).toNat, by omega, ?_⟩
    cases b with
    | true => obtain ⟨rfl, r⟩ := mx_q_nx hs; exact ⟨Or.inl ⟨rfl, rfl⟩, r⟩
    | false => obtain ⟨rfl, r⟩ := mx_q_nx hs; exact ⟨Or.inr ⟨rfl, rfl⟩, r⟩
  · cases hs
theorem mx_q_ld {l : List Value} {i pc pc' : Nat} {st l' st' : List Value} {h h' : MXH} {ok : Value → Bool} (hs : mx_ld l i pc st h ok = some (.inl (pc', l', st', h'))) : ∃ v, l[i]? = some v ∧ ok v = true ∧ pc' = pc ∧ l' = l ∧ st' = v :: st ∧ h' = h := by
  unfold mx_ld at hs
  split at hs
  · rename_i v hv
    cases hok : ok v with
    | true => rw [hok] at hs; exact ⟨v, hv, hok, mx_q_nx hs⟩
    | false => rw [hok] at hs; cases hs
  · cases hs
theorem mx_q_sto {l : List Value} {i pc pc' : Nat} {st l' st' : List Value} {h h' : MXH} {ok : Value → Bool} (hs : mx_sto l i pc st h ok = some (.inl (pc', l', st', h'))) : ∃ v, st = v :: st' ∧ ok v = true ∧ mx_st l i v = some l' ∧ pc' = pc ∧ h' = h := by
  unfold mx_sto at hs
  split at hs
  · rename_i v st2
    cases hok : ok v with
    | true =>
      rw [hok] at hs
      simp only [cond_true] at hs
      split at hs
      · rename_i l2 hl2
        obtain ⟨rfl, rfl, rfl, rfl⟩ := mx_q_nx hs
        exact ⟨v, rfl, hok, hl2, rfl, rfl⟩
      · cases hs
    | false => rw [hok] at hs; cases hs
  · cases hs
theorem mx_st_lt {l l' : List Value} {i : Nat} {v : Value} (h : mx_st l i v = some l') : i < l.length := by
  unfold mx_st at h
  split at h
  · assumption
  · cases h
theorem mx_q_o2 {pc pc' : Nat} {st l l' st' : List Value} {h h' : MXH} {f : Int32 → Int32 → Int32} (hs : mx_o2 pc l st h f = some (.inl (pc', l', st', h'))) : ∃ x y rest, st = .int y :: .int x :: rest ∧ pc' = pc + 1 ∧ l' = l ∧ st' = .int (f x y) :: rest ∧ h' = h := by
  unfold mx_o2 at hs
  split at hs
  · exact ⟨_, _, _, rfl, mx_q_nx hs⟩
  · cases hs
theorem mx_q_o1 {pc pc' : Nat} {st l l' st' : List Value} {h h' : MXH} {f : Int32 → Int32} (hs : mx_o1 pc l st h f = some (.inl (pc', l', st', h'))) : ∃ x rest, st = .int x :: rest ∧ pc' = pc + 1 ∧ l' = l ∧ st' = .int (f x) :: rest ∧ h' = h := by
  unfold mx_o1 at hs
  split at hs
  · exact ⟨_, _, rfl, mx_q_nx hs⟩
  · cases hs
theorem mx_q_l2 {pc pc' : Nat} {st l l' st' : List Value} {h h' : MXH} {f : Int64 → Int64 → Int64} (hs : mx_l2 pc l st h f = some (.inl (pc', l', st', h'))) : ∃ x y rest, st = .long y :: .long x :: rest ∧ pc' = pc + 1 ∧ l' = l ∧ st' = .long (f x y) :: rest ∧ h' = h := by
  unfold mx_l2 at hs
  split at hs
  · exact ⟨_, _, _, rfl, mx_q_nx hs⟩
  · cases hs
theorem mx_q_ls {pc pc' : Nat} {st l l' st' : List Value} {h h' : MXH} {f : Int64 → Int32 → Int64} (hs : mx_ls pc l st h f = some (.inl (pc', l', st', h'))) : ∃ x y rest, st = .int y :: .long x :: rest ∧ pc' = pc + 1 ∧ l' = l ∧ st' = .long (f x y) :: rest ∧ h' = h := by
  unfold mx_ls at hs
  split at hs
  · exact ⟨_, _, _, rfl, mx_q_nx hs⟩
  · cases hs
theorem mx_isI_of {v : Value} (h : mx_isI v = true) : ∃ x, v = .int x := by cases v <;> first | exact ⟨_, rfl⟩ | cases h
theorem mx_isJ_of {v : Value} (h : mx_isJ v = true) : ∃ x, v = .long x := by cases v <;> first | exact ⟨_, rfl⟩ | cases h
theorem mx_isA_of {g : MXG} {v : Value} (h : mx_isA v = true) : mx_cv g v = .null ∨ ∃ a, mx_cv g v = .ref a := by cases v <;> first | exact Or.inr ⟨_, rfl⟩ | exact Or.inl rfl | cases h
theorem mx_isA_nd {v : Value} (h : mx_isA v = true) : ∀ x, v ≠ .double x := by intro x hx; subst hx; cases h
theorem mx_fit_ok {g : MXG} {ty : FieldType} {v : Value} (h : mx_fit ty v = true) : narrow ty (mx_cv g v) = mx_cv g v ∧ fits ty (mx_cv g v) = true := by
  unfold mx_fit at h
  split at h
  · exact ⟨rfl, rfl⟩
  · rename_i x
    simp only [Bool.or_eq_true, decide_eq_true_eq] at h
    rcases h with rfl | rfl <;> exact ⟨rfl, rfl⟩
  · rcases mx_isA_of (g := g) h with h | ⟨a, h⟩ <;> rw [h] <;> exact ⟨rfl, rfl⟩
  · rcases mx_isA_of (g := g) h with h | ⟨a, h⟩ <;> rw [h] <;> exact ⟨rfl, rfl⟩
  · cases h
theorem mx_rest {g : MXG} {rest : List Value} (h : rest.length ≤ 4) : ((rest.map (mx_cv g)).map fun v => v.category).sum ≤ 8 := by
  have key : ∀ r : List Value, ((r.map (mx_cv g)).map fun v => v.category).sum ≤ 2 * r.length := by
    intro r
    induction r with
    | nil => simp
    | cons v t ih =>
      have := mx_catle g v
      simp only [List.map_cons, List.sum_cons, List.length_cons]
      omega
  have := key rest
  omega
section MXO
variable {p : Program} {l : Launch} {e : Env} {R : Room} {s : State} {m : MethodId} {args : Array Value} {below : List Frame} {meth : Method} {c : Code} {H : Heap} {locs : List Loc} {Q : State → Prop}
/-- going on from a state of the abstract machine -/
abbrev mx_KK (p : Program) (l : Launch) (e : Env) (R : Room) (s : State) (m : MethodId) (args : Array Value) (below : List Frame) (meth : Method) (c : Code) (Q : State → Prop) (g : MXG) (nL n0 z0 pc : Nat) (ll st : List Value) (h : MXH) : Prop :=
  ∀ (ls : Array Slot) (H : Heap) (locs : List Loc), mx_lv g ls nL ll → va_P (mx_DD g) vwCl (mx_ws g h) H → va_S (mx_A g) s.heap H locs → W p l e R s m args below meth c H locs (h.length - n0) (mx_sz h - z0) Q (F0 m pc ls (st.map (mx_cv g)))
/-- behind a write: the counts are as before -/
theorem mx_KK.set {g : MXG} {nL n0 z0 pc a : Nat} {ll st : List Value} {h : MXH} {x x' : va_E} (kk : mx_KK p l e R s m args below meth c Q g nL n0 z0 pc ll st (h.set a x')) (ha : h[a]? = some x) (hw : mx_w x' = mx_w x) {ls : Array Slot} (hl : mx_lv g ls nL ll) {H1 : Heap} {locs1 : List Loc} (hP : va_P (mx_DD g) vwCl ((mx_ws g h).set a (g.1 + a, mx_ce g x')) H1) (hS : va_S (mx_A g) s.heap H1 locs1) :
    W p l e R s m args below meth c H1 locs1 (h.length - n0) (mx_sz h - z0) Q (F0 m pc ls (st.map (mx_cv g))) := by
  rw [mx_ws_set] at hP
  have h1 := kk ls H1 locs1 hl hP hS
  rw [List.length_set, mx_sz_set ha hw] at h1
  exact h1
/-- behind a new cell -/
theorem mx_KK.push {g : MXG} {nL n0 z0 pc N : Nat} {ll st : List Value} {h : MXH} {x : va_E} (kk : mx_KK p l e R s m args below meth c Q g nL n0 z0 pc ll st (h ++ [x])) (hn : n0 ≤ h.length) (hz : z0 ≤ mx_sz h) (hN : mx_w x = N) {ls : Array Slot} (hl : mx_lv g ls nL ll) {H H1 : Heap} (hP : va_P (mx_DD g) vwCl (mx_ws g h) H) (hS : va_S (mx_A g) s.heap H locs) (hsz : H.size = g.1 + h.length)
    (z1 : H1.size = g.1 + h.length + 1) (o1 : ∀ q : Nat, q < g.1 + h.length → H1[q]? = H[q]?) (hnew : va_at (mx_DD g) vwCl (g.1 + h.length, mx_ce g x) H1) :
    W p l e R s m args below meth c H1 locs (h.length - n0 + 1) (mx_sz h - z0 + N) Q (F0 m pc ls (st.map (mx_cv g))) := by
  have hk : ∀ (k : Nat) (y : Nat × va_E), (mx_ws g h)[k]? = some y → H1[y.1]? = H[y.1]? := fun k y hy => o1 y.1 (by rw [← hsz]; exact (hP k y hy).lt)
  have hP1 : va_P (mx_DD g) vwCl (mx_ws g (h ++ [x])) H1 := by
    rw [← mx_ws_push]
    refine (hP.kept hk).app (fun k y hy => ?_)
    have hk0 : k < 1 := (List.getElem?_eq_some_iff.mp hy).1
    rw [show k = 0 by omega] at hy
    cases hy
    exact hnew
  have h1 := kk ls H1 locs hl hP1 ⟨Nat.le_trans hS.1 (by omega), fun y h1 h2 => (o1 y (by rw [← hsz]; exact Nat.lt_of_lt_of_le h1 hS.1)).trans (hS.2.1 y h1 h2), hS.2.2⟩
  rw [mx_sz_push, hN, List.length_append] at h1
  rw [show h.length - n0 + 1 = h.length + [x].length - n0 by simp; omega, show mx_sz h - z0 + N = mx_sz h + N - z0 by omega]
  exact h1

theorem mx_cmp_ty (g : MXG) {kd cc : Nat} (h : mx_cmp kd = some cc) : ∃ C, (mx_tys g)[kd]? = some (g.2.2.1 kd, .object C) := by
  unfold mx_cmp at h
  split at h
  · subst_vars; exact ⟨_, rfl⟩
  · split at h
    · subst_vars; exact ⟨_, rfl⟩
    · split at h
      · subst_vars; exact ⟨_, rfl⟩
      · split at h
        · subst_vars; exact ⟨_, rfl⟩
        · cases h
theorem mx_cmp_ty' (g : MXG) {kd cc : Nat} (h : mx_cmp kd = some cc) : (mx_tys g)[kd]? = some (g.2.2.1 kd, .object (mx_cn cc)) := by
  unfold mx_cmp at h
  split at h
  · subst_vars; cases h; rfl
  · split at h
    · subst_vars; cases h; rfl
    · split at h
      · subst_vars; cases h; rfl
      · split at h
        · subst_vars; cases h; rfl
        · cases h
theorem mx_T_int : Cond.arrayClass .int ∈ mx_T := by decide +kernel
theorem mx_T_bool : Cond.arrayClass .boolean ∈ mx_T := by decide +kernel
theorem mx_sub_all : mx_SB.all (fun q => decide (q.1 < 13) && decide (q.2 < 13)) = true := by decide +kernel
theorem mx_cl_of {ci : Nat} (h : ci < 13) : ∃ C T N, vwCl[ci]? = some (C, T, N) := by
  have hlt : ci < vwCl.length := h
  exact ⟨_, _, _, List.getElem?_eq_getElem hlt⟩
theorem mx_sub_cl {ci cc : Nat} (h : mx_sub ci cc = true) : ∃ C T N, vwCl[ci]? = some (C, T, N) := by
  unfold mx_sub at h
  obtain ⟨q, hq, hb⟩ := List.any_eq_true.mp h
  simp only [Bool.and_eq_true] at hb
  have e1 : q.1 = ci := Nat.eq_of_beq_eq_true hb.1
  have h2 := List.all_eq_true.mp mx_sub_all q hq
  simp only [Bool.and_eq_true, decide_eq_true_eq] at h2
  exact mx_cl_of (by omega)
theorem mx_selr_cl {ci : Nat} (h : mx_selr ci = true) : ∃ C T N, vwCl[ci]? = some (C, T, N) := by
  unfold mx_selr at h
  simp only [Bool.or_eq_true, beq_iff_eq] at h
  exact mx_cl_of (by omega)
theorem mx_ak_cmp {ci kd : Nat} (h : mx_pk mx_AK ci = some kd) : mx_cmp kd = some ci := by
  have hm := mx_pk_mem h
  have : mx_AK.all (fun q => decide (mx_cmp q.2 = some q.1)) = true := by decide +kernel
  have h2 := List.all_eq_true.mp this _ hm
  simpa using h2
theorem mx_df_cv (g : MXG) {ci : Nat} {fs : List Value} (h : mx_dfL[ci]? = some fs) : ∀ v ∈ fs, mx_cv g v = v := by
  have hall : mx_dfL.all (fun l => l.all (fun v => match v with | .int _ => true | .null => true | _ => false)) = true := by decide +kernel
  have h1 := List.all_eq_true.mp hall fs (List.mem_of_getElem? h)
  intro v hv
  have h2 := List.all_eq_true.mp h1 v hv
  cases v <;> first | rfl | cases h2
theorem mx_cl_all : mx_CT.all (fun c => c.2.all (fun r => !r.2.2.2.isEmpty)) = true := by decide +kernel
theorem mx_cl_ne {k idx kd n : Nat} {qs : List MXQ} (h : mx_cl k idx = some (kd, n, qs)) : ∃ q, q ∈ qs := by
  unfold mx_cl at h
  split at h
  · rename_i t ht
    have h1 := List.all_eq_true.mp mx_cl_all _ (mx_pk_mem ht)
    have h2 := List.all_eq_true.mp h1 _ (mx_pk_mem h)
    cases qs with
    | nil => cases h2
    | cons q t => exact ⟨q, List.mem_cons_self⟩
  · cases h
theorem mx_cx_M {kd n : Nat} {q : MXQ} (h : mx_cx kd n q = true) : ∃ em, mx_M[q.2.1]? = some em := by
  unfold mx_cx at h
  split at h
  · cases h
  · rename_i em hem; exact ⟨em, hem⟩
def mx_grp (i : Instr) : Nat := match i with
  | .iconst _ => 0
  | .bipush _ => 0
  | .sipush _ => 0
  | .lconst _ => 0
  | .iload_n _ => 0
  | .iload _ => 0
  | .lload_n _ => 0
  | .lload _ => 0
  | .aload_n _ => 0
  | .aload _ => 0
  | .istore_n _ => 0
  | .istore _ => 0
  | .astore_n _ => 0
  | .astore _ => 0
  | .iinc _ _ => 0
  | .iadd => 1
  | .isub => 1
  | .imul => 1
  | .iand => 1
  | .ixor => 1
  | .ishr => 1
  | .iushr => 1
  | .idiv => 1
  | .irem => 1
  | .ineg => 1
  | .i2b => 1
  | .i2s => 1
  | .i2c => 1
  | .i2l => 1
  | .l2i => 1
  | .land => 1
  | .lor => 1
  | .lshl => 1
  | .lshr => 1
  | .lushr => 1
  | .lcmp => 1
  | .dup => 1
  | .pop => 1
  | .dup2 => 1
  | .ifCond _ _ => 2
  | .if_icmp _ _ => 2
  | .ifnull _ => 2
  | .goto _ => 2
  | .tableswitch _ _ _ _ => 2
  | .lookupswitch _ _ => 2
  | .ldc _ => 3
  | .ldc_w _ => 3
  | .ldc2_w _ => 3
  | .getstatic _ => 3
  | .iaload => 4
  | .baload => 4
  | .iastore => 4
  | .bastore => 4
  | .aaload => 4
  | .aastore => 5
  | .arraylength => 4
  | .getfield _ => 6
  | .putfield _ => 6
  | .new _ => 7
  | .anewarray _ => 7
  | .newarray _ => 7
  | .instanceof _ => 7
  | .invokestatic _ => 8
  | .invokespecial _ => 8
  | .invokevirtual _ => 8
  | .ireturn => 8
  | .areturn => 8
  | .return_ => 8
  | _ => 99
set_option maxHeartbeats 4000000 in
set_option maxRecDepth 100000 in
theorem mx_one_g0 {g : MXG} {X : MXX} {k : Nat} {em : MXM} {n0 z0 d pc len pc' : Nat} {i : Instr} {ll st ll' st' : List Value} {h h' : MXH} {ls : Array Slot} (F : mx_Fr p s m args meth c g X k em n0) (hat : mx_at k pc = some (i, len))
    (hs : mx_step X d k pc i ll st h = some (.inl (pc', ll', st', h'))) (hl : mx_lv g ls em.2.2.1 ll) (hP : va_P (mx_DD g) vwCl (mx_ws g h) H) (hS : va_S (mx_A g) s.heap H locs) (hn : n0 ≤ h.length) (hz : z0 ≤ mx_sz h) (hRc : h'.length - n0 ≤ R.cells) (hRs : mx_sz h' - z0 ≤ R.slots) (hRf : d ≤ R.frames) (hRl : 64 * d ≤ R.locals)
    (kk : mx_KK p l e R s m args below meth c Q g em.2.2.1 n0 z0 pc' ll' st' h') (hsel : mx_grp i = 0) : W p l e R s m args below meth c H locs (h.length - n0) (mx_sz h - z0) Q (F0 m pc ls (st.map (mx_cv g))) := by
  obtain ⟨hM, hx, hb, hr, hml, hown, hts, hlk, hnm, hK, hs0⟩ := F
  obtain ⟨em', hem, hdg, hmem⟩ := mx_at_mem hat
  cases hM.symm.trans hem
  have hlen := mx_len_at hM hmem
  have how := mx_ow_eq hM
  cases i with
  | iconst n =>
    simp only [mx_lenok, beq_iff_eq] at hlen; subst hlen
    simp only [mx_step] at hs
    obtain ⟨rfl, rfl, rfl, rfl⟩ := mx_q_nx hs
    exact lv_iconst hx hb hdg rfl (kk ls H locs hl hP hS)
  | bipush n =>
    simp only [mx_lenok, beq_iff_eq] at hlen; subst hlen
    simp only [mx_step] at hs
    obtain ⟨rfl, rfl, rfl, rfl⟩ := mx_q_nx hs
    exact lv_bipush hx hb hdg rfl (kk ls H locs hl hP hS)
  | sipush n =>
    simp only [mx_lenok, beq_iff_eq] at hlen; subst hlen
    simp only [mx_step] at hs
    obtain ⟨rfl, rfl, rfl, rfl⟩ := mx_q_nx hs
    exact lv_sipush hx hb hdg rfl (kk ls H locs hl hP hS)
  | lconst n =>
    simp only [mx_lenok, beq_iff_eq] at hlen; subst hlen
    simp only [mx_step] at hs
    obtain ⟨rfl, rfl, rfl, rfl⟩ := mx_q_nx hs
    exact lv_lconst hx hb hdg rfl (kk ls H locs hl hP hS)
  | iload_n n =>
    simp only [mx_lenok, beq_iff_eq] at hlen; subst hlen
    simp only [mx_step] at hs
    obtain ⟨v, hv, hok, rfl, rfl, rfl, rfl⟩ := mx_q_ld hs
    obtain ⟨x, rfl⟩ := mx_isI_of hok
    exact lv_iload_n hx hb hdg rfl (hl.2.2.2 _ _ hv (fun _ q => by cases q)) (kk ls H locs hl hP hS)
  | iload n =>
    simp only [mx_lenok, beq_iff_eq] at hlen; subst hlen
    simp only [mx_step] at hs
    obtain ⟨v, hv, hok, rfl, rfl, rfl, rfl⟩ := mx_q_ld hs
    obtain ⟨x, rfl⟩ := mx_isI_of hok
    exact lv_iload hx hb hdg (hl.2.2.2 _ _ hv (fun _ q => by cases q)) (kk ls H locs hl hP hS)
  | lload_n n =>
    simp only [mx_lenok, beq_iff_eq] at hlen; subst hlen
    simp only [mx_step] at hs
    obtain ⟨v, hv, hok, rfl, rfl, rfl, rfl⟩ := mx_q_ld hs
    obtain ⟨x, rfl⟩ := mx_isJ_of hok
    exact lv_lload_n hx hb hdg rfl (hl.2.2.2 _ _ hv (fun _ q => by cases q)) (kk ls H locs hl hP hS)
  | lload n =>
    simp only [mx_lenok, beq_iff_eq] at hlen; subst hlen
    simp only [mx_step] at hs
    obtain ⟨v, hv, hok, rfl, rfl, rfl, rfl⟩ := mx_q_ld hs
    obtain ⟨x, rfl⟩ := mx_isJ_of hok
    exact lv_lload hx hb hdg (hl.2.2.2 _ _ hv (fun _ q => by cases q)) (kk ls H locs hl hP hS)
  | aload_n n =>
    simp only [mx_lenok, beq_iff_eq] at hlen; subst hlen
    simp only [mx_step] at hs
    obtain ⟨v, hv, hok, rfl, rfl, rfl, rfl⟩ := mx_q_ld hs
    have hv2 := hl.2.2.2 _ _ hv (mx_isA_nd hok)
    have k2 := (kk ls H locs hl hP hS)
    rw [List.map_cons] at k2
    rcases mx_isA_of (g := g) hok with q | ⟨a, q⟩
    · rw [q] at hv2 k2; exact lv_aload_nN hx hb hdg rfl hv2 k2
    · rw [q] at hv2 k2; exact lv_aload_n hx hb hdg rfl hv2 k2
  | aload n =>
    simp only [mx_lenok, beq_iff_eq] at hlen; subst hlen
    simp only [mx_step] at hs
    obtain ⟨v, hv, hok, rfl, rfl, rfl, rfl⟩ := mx_q_ld hs
    have hv2 := hl.2.2.2 _ _ hv (mx_isA_nd hok)
    have k2 := (kk ls H locs hl hP hS)
    rw [List.map_cons] at k2
    rcases mx_isA_of (g := g) hok with q | ⟨a, q⟩
    · rw [q] at hv2 k2; exact lv_aloadN hx hb hdg hv2 k2
    · rw [q] at hv2 k2; exact lv_aload hx hb hdg hv2 k2
  | istore_n n =>
    simp only [mx_lenok, beq_iff_eq] at hlen; subst hlen
    simp only [mx_step] at hs
    obtain ⟨v, rfl, hok, hst, rfl, rfl⟩ := mx_q_sto hs
    obtain ⟨x, rfl⟩ := mx_isI_of hok
    exact lv_istore_n hx hb hdg rfl (mx_lv_has hl) (by rw [← hl.2.1]; exact mx_st_lt hst) rfl (fun ls' hl' => kk ls' H locs (mx_lv_set hl.2.1 hst hl') hP hS)
  | istore n =>
    simp only [mx_lenok, beq_iff_eq] at hlen; subst hlen
    simp only [mx_step] at hs
    obtain ⟨v, rfl, hok, hst, rfl, rfl⟩ := mx_q_sto hs
    obtain ⟨x, rfl⟩ := mx_isI_of hok
    exact lv_istore hx hb hdg (mx_lv_has hl) (by rw [← hl.2.1]; exact mx_st_lt hst) rfl (fun ls' hl' => kk ls' H locs (mx_lv_set hl.2.1 hst hl') hP hS)
  | astore_n n =>
    simp only [mx_lenok, beq_iff_eq] at hlen; subst hlen
    simp only [mx_step] at hs
    obtain ⟨v, rfl, hok, hst, rfl, rfl⟩ := mx_q_sto hs
    have k2 : ∀ ls' : Array Slot, lv_has ls' em.2.2.1 ((_, mx_cv g v) :: (mx_all g 0 ll).filter (fun q => !(q.1 == _) && !(q.1 + 1 == _ && q.2.category == 2))) → _ := fun ls' hl' => kk ls' H locs (mx_lv_set hl.2.1 hst hl') hP hS
    rw [List.map_cons]
    rcases mx_isA_of (g := g) hok with q | ⟨a, q⟩
    · rw [q] at k2 ⊢; exact lv_astore_nN hx hb hdg rfl (mx_lv_has hl) (by rw [← hl.2.1]; exact mx_st_lt hst) rfl k2
    · rw [q] at k2 ⊢; exact lv_astore_n hx hb hdg rfl (mx_lv_has hl) (by rw [← hl.2.1]; exact mx_st_lt hst) rfl k2
  | astore n =>
    simp only [mx_lenok, beq_iff_eq] at hlen; subst hlen
    simp only [mx_step] at hs
    obtain ⟨v, rfl, hok, hst, rfl, rfl⟩ := mx_q_sto hs
    have k2 : ∀ ls' : Array Slot, lv_has ls' em.2.2.1 ((_, mx_cv g v) :: (mx_all g 0 ll).filter (fun q => !(q.1 == _) && !(q.1 + 1 == _ && q.2.category == 2))) → _ := fun ls' hl' => kk ls' H locs (mx_lv_set hl.2.1 hst hl') hP hS
    rw [List.map_cons]
    rcases mx_isA_of (g := g) hok with q | ⟨a, q⟩
    · rw [q] at k2 ⊢; exact lv_astoreN hx hb hdg (mx_lv_has hl) (by rw [← hl.2.1]; exact mx_st_lt hst) rfl k2
    · rw [q] at k2 ⊢; exact lv_astore hx hb hdg (mx_lv_has hl) (by rw [← hl.2.1]; exact mx_st_lt hst) rfl k2
  | iinc n cst =>
    simp only [mx_lenok, beq_iff_eq] at hlen; subst hlen
    simp only [mx_step] at hs
    split at hs
    · rename_i x hx0
      split at hs
      · rename_i l2 hst
        obtain ⟨rfl, rfl, rfl, rfl⟩ := mx_q_nx hs
        obtain ⟨j, hj⟩ := List.getElem?_of_mem (mx_all_mem (g := g) (i := 0) hx0 (fun _ q => by cases q))
        rw [Nat.zero_add] at hj
        exact lv_iinc hx hb hdg (mx_lv_has hl) hj rfl (by rw [← hl.2.1]; exact mx_st_lt hst) rfl (fun ls' hl' => kk ls' H locs (mx_lv_set hl.2.1 hst hl') hP hS)
      · cases hs
    · cases hs
  | _ => first | cases hsel | (simp [mx_grp] at hsel)
set_option maxHeartbeats 4000000 in
set_option maxRecDepth 100000 in
theorem mx_one_g1 {g : MXG} {X : MXX} {k : Nat} {em : MXM} {n0 z0 d pc len pc' : Nat} {i : Instr} {ll st ll' st' : List Value} {h h' : MXH} {ls : Array Slot} (F : mx_Fr p s m args meth c g X k em n0) (hat : mx_at k pc = some (i, len))
    (hs : mx_step X d k pc i ll st h = some (.inl (pc', ll', st', h'))) (hl : mx_lv g ls em.2.2.1 ll) (hP : va_P (mx_DD g) vwCl (mx_ws g h) H) (hS : va_S (mx_A g) s.heap H locs) (hn : n0 ≤ h.length) (hz : z0 ≤ mx_sz h) (hRc : h'.length - n0 ≤ R.cells) (hRs : mx_sz h' - z0 ≤ R.slots) (hRf : d ≤ R.frames) (hRl : 64 * d ≤ R.locals)
    (kk : mx_KK p l e R s m args below meth c Q g em.2.2.1 n0 z0 pc' ll' st' h') (hsel : mx_grp i = 1) : W p l e R s m args below meth c H locs (h.length - n0) (mx_sz h - z0) Q (F0 m pc ls (st.map (mx_cv g))) := by
  obtain ⟨hM, hx, hb, hr, hml, hown, hts, hlk, hnm, hK, hs0⟩ := F
  obtain ⟨em', hem, hdg, hmem⟩ := mx_at_mem hat
  cases hM.symm.trans hem
  have hlen := mx_len_at hM hmem
  have how := mx_ow_eq hM
  cases i with
  | iadd =>
    simp only [mx_lenok, beq_iff_eq] at hlen; subst hlen
    simp only [mx_step] at hs
    obtain ⟨x, y, rest, rfl, rfl, rfl, rfl, rfl⟩ := mx_q_o2 hs
    exact lv_iadd hx hb hdg (kk ls H locs hl hP hS)
  | isub =>
    simp only [mx_lenok, beq_iff_eq] at hlen; subst hlen
    simp only [mx_step] at hs
    obtain ⟨x, y, rest, rfl, rfl, rfl, rfl, rfl⟩ := mx_q_o2 hs
    exact lv_isub hx hb hdg (kk ls H locs hl hP hS)
  | imul =>
    simp only [mx_lenok, beq_iff_eq] at hlen; subst hlen
    simp only [mx_step] at hs
    obtain ⟨x, y, rest, rfl, rfl, rfl, rfl, rfl⟩ := mx_q_o2 hs
    exact lv_imul hx hb hdg (kk ls H locs hl hP hS)
  | iand =>
    simp only [mx_lenok, beq_iff_eq] at hlen; subst hlen
    simp only [mx_step] at hs
    obtain ⟨x, y, rest, rfl, rfl, rfl, rfl, rfl⟩ := mx_q_o2 hs
    exact lv_iand hx hb hdg (kk ls H locs hl hP hS)
  | ixor =>
    simp only [mx_lenok, beq_iff_eq] at hlen; subst hlen
    simp only [mx_step] at hs
    obtain ⟨x, y, rest, rfl, rfl, rfl, rfl, rfl⟩ := mx_q_o2 hs
    exact lv_ixor hx hb hdg (kk ls H locs hl hP hS)
  | ishr =>
    simp only [mx_lenok, beq_iff_eq] at hlen; subst hlen
    simp only [mx_step] at hs
    obtain ⟨x, y, rest, rfl, rfl, rfl, rfl, rfl⟩ := mx_q_o2 hs
    exact lv_ishr hx hb hdg (kk ls H locs hl hP hS)
  | iushr =>
    simp only [mx_lenok, beq_iff_eq] at hlen; subst hlen
    simp only [mx_step] at hs
    obtain ⟨x, y, rest, rfl, rfl, rfl, rfl, rfl⟩ := mx_q_o2 hs
    exact lv_iushr hx hb hdg rfl (kk ls H locs hl hP hS)
  | idiv =>
    simp only [mx_lenok, beq_iff_eq] at hlen; subst hlen
    simp only [mx_step] at hs
    split at hs
    · split at hs
      · cases hs
      · rename_i hy
        obtain ⟨rfl, rfl, rfl, rfl⟩ := mx_q_nx hs
        exact lv_idiv hx hb hdg hy (kk ls H locs hl hP hS)
    · cases hs
  | irem =>
    simp only [mx_lenok, beq_iff_eq] at hlen; subst hlen
    simp only [mx_step] at hs
    split at hs
    · split at hs
      · cases hs
      · rename_i hy
        obtain ⟨rfl, rfl, rfl, rfl⟩ := mx_q_nx hs
        exact lv_irem hx hb hdg hy (kk ls H locs hl hP hS)
    · cases hs
  | ineg =>
    simp only [mx_lenok, beq_iff_eq] at hlen; subst hlen
    simp only [mx_step] at hs
    obtain ⟨x, rest, rfl, rfl, rfl, rfl, rfl⟩ := mx_q_o1 hs
    exact lv_ineg hx hb hdg (kk ls H locs hl hP hS)
  | i2b =>
    simp only [mx_lenok, beq_iff_eq] at hlen; subst hlen
    simp only [mx_step] at hs
    obtain ⟨x, rest, rfl, rfl, rfl, rfl, rfl⟩ := mx_q_o1 hs
    exact lv_i2b hx hb hdg rfl (kk ls H locs hl hP hS)
  | i2s =>
    simp only [mx_lenok, beq_iff_eq] at hlen; subst hlen
    simp only [mx_step] at hs
    obtain ⟨x, rest, rfl, rfl, rfl, rfl, rfl⟩ := mx_q_o1 hs
    exact lv_i2s hx hb hdg rfl (kk ls H locs hl hP hS)
  | i2c =>
    simp only [mx_lenok, beq_iff_eq] at hlen; subst hlen
    simp only [mx_step] at hs
    obtain ⟨x, rest, rfl, rfl, rfl, rfl, rfl⟩ := mx_q_o1 hs
    exact lv_i2c hx hb hdg rfl (kk ls H locs hl hP hS)
  | i2l =>
    simp only [mx_lenok, beq_iff_eq] at hlen; subst hlen
    simp only [mx_step] at hs
    split at hs
    · obtain ⟨rfl, rfl, rfl, rfl⟩ := mx_q_nx hs
      exact lv_i2l hx hb hdg rfl (kk ls H locs hl hP hS)
    · cases hs
  | l2i =>
    simp only [mx_lenok, beq_iff_eq] at hlen; subst hlen
    simp only [mx_step] at hs
    split at hs
    · obtain ⟨rfl, rfl, rfl, rfl⟩ := mx_q_nx hs
      exact lv_l2i hx hb hdg rfl (kk ls H locs hl hP hS)
    · cases hs
  | land =>
    simp only [mx_lenok, beq_iff_eq] at hlen; subst hlen
    simp only [mx_step] at hs
    obtain ⟨x, y, rest, rfl, rfl, rfl, rfl, rfl⟩ := mx_q_l2 hs
    exact lv_land hx hb hdg (kk ls H locs hl hP hS)
  | lor =>
    simp only [mx_lenok, beq_iff_eq] at hlen; subst hlen
    simp only [mx_step] at hs
    obtain ⟨x, y, rest, rfl, rfl, rfl, rfl, rfl⟩ := mx_q_l2 hs
    exact lv_lor hx hb hdg (kk ls H locs hl hP hS)
  | lshl =>
    simp only [mx_lenok, beq_iff_eq] at hlen; subst hlen
    simp only [mx_step] at hs
    obtain ⟨x, y, rest, rfl, rfl, rfl, rfl, rfl⟩ := mx_q_ls hs
    exact lv_lshl hx hb hdg rfl (kk ls H locs hl hP hS)
  | lshr =>
    simp only [mx_lenok, beq_iff_eq] at hlen; subst hlen
    simp only [mx_step] at hs
    obtain ⟨x, y, rest, rfl, rfl, rfl, rfl, rfl⟩ := mx_q_ls hs
    exact lv_lshr hx hb hdg rfl (kk ls H locs hl hP hS)
  | lushr =>
    simp only [mx_lenok, beq_iff_eq] at hlen; subst hlen
    simp only [mx_step] at hs
    obtain ⟨x, y, rest, rfl, rfl, rfl, rfl, rfl⟩ := mx_q_ls hs
    exact lv_lushr hx hb hdg rfl (kk ls H locs hl hP hS)
  | lcmp =>
    simp only [mx_lenok, beq_iff_eq] at hlen; subst hlen
    simp only [mx_step] at hs
    split at hs
    · obtain ⟨rfl, rfl, rfl, rfl⟩ := mx_q_nx hs
      exact W.lcmp hx hb hdg (kk ls H locs hl hP hS)
    · cases hs
  | dup =>
    simp only [mx_lenok, beq_iff_eq] at hlen; subst hlen
    simp only [mx_step] at hs
    split at hs
    · rename_i v st2
      cases hok : mx_c1 v with
      | true =>
        rw [hok] at hs
        obtain ⟨rfl, rfl, rfl, rfl⟩ := mx_q_nx hs
        exact lv_dup hx hb hdg (mx_cat g v hok) (kk ls H locs hl hP hS)
      | false => rw [hok] at hs; cases hs
    · cases hs
  | pop =>
    simp only [mx_lenok, beq_iff_eq] at hlen; subst hlen
    simp only [mx_step] at hs
    split at hs
    · rename_i v st2
      cases hok : mx_c1 v with
      | true =>
        rw [hok] at hs
        obtain ⟨rfl, rfl, rfl, rfl⟩ := mx_q_nx hs
        exact lv_pop hx hb hdg (mx_cat g v hok) (kk ls H locs hl hP hS)
      | false => rw [hok] at hs; cases hs
    · cases hs
  | dup2 =>
    simp only [mx_lenok, beq_iff_eq] at hlen; subst hlen
    simp only [mx_step] at hs
    split at hs
    · rename_i v w st2
      cases hok : (mx_c1 v && mx_c1 w) with
      | true =>
        rw [hok] at hs
        obtain ⟨rfl, rfl, rfl, rfl⟩ := mx_q_nx hs
        simp only [Bool.and_eq_true] at hok
        exact lv_dup2_11 hx hb hdg (mx_cat g v hok.1) (mx_cat g w hok.2) (kk ls H locs hl hP hS)
      | false => rw [hok] at hs; cases hs
    · cases hs
  | _ => first | cases hsel | (simp [mx_grp] at hsel)
set_option maxHeartbeats 4000000 in
set_option maxRecDepth 100000 in
theorem mx_one_g2 {g : MXG} {X : MXX} {k : Nat} {em : MXM} {n0 z0 d pc len pc' : Nat} {i : Instr} {ll st ll' st' : List Value} {h h' : MXH} {ls : Array Slot} (F : mx_Fr p s m args meth c g X k em n0) (hat : mx_at k pc = some (i, len))
    (hs : mx_step X d k pc i ll st h = some (.inl (pc', ll', st', h'))) (hl : mx_lv g ls em.2.2.1 ll) (hP : va_P (mx_DD g) vwCl (mx_ws g h) H) (hS : va_S (mx_A g) s.heap H locs) (hn : n0 ≤ h.length) (hz : z0 ≤ mx_sz h) (hRc : h'.length - n0 ≤ R.cells) (hRs : mx_sz h' - z0 ≤ R.slots) (hRf : d ≤ R.frames) (hRl : 64 * d ≤ R.locals)
    (kk : mx_KK p l e R s m args below meth c Q g em.2.2.1 n0 z0 pc' ll' st' h') (hsel : mx_grp i = 2) : W p l e R s m args below meth c H locs (h.length - n0) (mx_sz h - z0) Q (F0 m pc ls (st.map (mx_cv g))) := by
  obtain ⟨hM, hx, hb, hr, hml, hown, hts, hlk, hnm, hK, hs0⟩ := F
  obtain ⟨em', hem, hdg, hmem⟩ := mx_at_mem hat
  cases hM.symm.trans hem
  have hlen := mx_len_at hM hmem
  have how := mx_ow_eq hM
  cases i with
  | ifCond cd off =>
    simp only [mx_lenok, beq_iff_eq] at hlen; subst hlen
    simp only [mx_step] at hs
    split at hs
    · obtain ⟨tgt, ht, hc, rfl, rfl, rfl⟩ := mx_q_br hs
      cases cd with
      | eq =>
        rcases hc with ⟨hf, rfl⟩ | ⟨hf, rfl⟩
        · exact lv_if_eq (tgt := pc') hx hb hdg ht (fun _ => (kk ls H locs hl hP hS)) (fun q => absurd (of_decide_eq_true hf) q)
        · exact lv_if_eq (tgt := tgt) hx hb hdg ht (fun q => absurd q (of_decide_eq_false hf)) (fun _ => (kk ls H locs hl hP hS))
      | ne =>
        rcases hc with ⟨hf, rfl⟩ | ⟨hf, rfl⟩
        · exact lv_if_ne (tgt := pc') hx hb hdg ht (fun _ => (kk ls H locs hl hP hS)) (fun q => absurd q (of_decide_eq_true hf))
        · exact lv_if_ne (tgt := tgt) hx hb hdg ht (fun q => absurd q (of_decide_eq_false hf)) (fun _ => (kk ls H locs hl hP hS))
      | lt =>
        rcases hc with ⟨hf, rfl⟩ | ⟨hf, rfl⟩
        · exact lv_if_lt (tgt := pc') hx hb hdg ht (fun _ => (kk ls H locs hl hP hS)) (fun q => absurd (of_decide_eq_true hf) q)
        · exact lv_if_lt (tgt := tgt) hx hb hdg ht (fun q => absurd q (of_decide_eq_false hf)) (fun _ => (kk ls H locs hl hP hS))
      | ge =>
        rcases hc with ⟨hf, rfl⟩ | ⟨hf, rfl⟩
        · exact lv_if_ge (tgt := pc') hx hb hdg ht (fun _ => (kk ls H locs hl hP hS)) (fun q => absurd (of_decide_eq_true hf) q)
        · exact lv_if_ge (tgt := tgt) hx hb hdg ht (fun q => absurd q (of_decide_eq_false hf)) (fun _ => (kk ls H locs hl hP hS))
      | gt =>
        rcases hc with ⟨hf, rfl⟩ | ⟨hf, rfl⟩
        · exact lv_if_gt (tgt := pc') hx hb hdg ht (fun _ => (kk ls H locs hl hP hS)) (fun q => absurd (of_decide_eq_true hf) q)
        · exact lv_if_gt (tgt := tgt) hx hb hdg ht (fun q => absurd q (of_decide_eq_false hf)) (fun _ => (kk ls H locs hl hP hS))
      | le =>
        rcases hc with ⟨hf, rfl⟩ | ⟨hf, rfl⟩
        · exact lv_if_le (tgt := pc') hx hb hdg ht (fun _ => (kk ls H locs hl hP hS)) (fun q => absurd (of_decide_eq_true hf) q)
        · exact lv_if_le (tgt := tgt) hx hb hdg ht (fun q => absurd q (of_decide_eq_false hf)) (fun _ => (kk ls H locs hl hP hS))
    · cases hs
  | if_icmp cd off =>
    simp only [mx_lenok, beq_iff_eq] at hlen; subst hlen
    simp only [mx_step] at hs
    split at hs
    · obtain ⟨tgt, ht, hc, rfl, rfl, rfl⟩ := mx_q_br hs
      cases cd with
      | eq =>
        rcases hc with ⟨hf, rfl⟩ | ⟨hf, rfl⟩
        · exact lv_icmp_eq (tgt := pc') hx hb hdg ht (fun _ => (kk ls H locs hl hP hS)) (fun q => absurd (of_decide_eq_true hf) q)
        · exact lv_icmp_eq (tgt := tgt) hx hb hdg ht (fun q => absurd q (of_decide_eq_false hf)) (fun _ => (kk ls H locs hl hP hS))
      | ne =>
        rcases hc with ⟨hf, rfl⟩ | ⟨hf, rfl⟩
        · exact lv_icmp_ne (tgt := pc') hx hb hdg ht (fun _ => (kk ls H locs hl hP hS)) (fun q => absurd q (of_decide_eq_true hf))
        · exact lv_icmp_ne (tgt := tgt) hx hb hdg ht (fun q => absurd q (of_decide_eq_false hf)) (fun _ => (kk ls H locs hl hP hS))
      | lt =>
        rcases hc with ⟨hf, rfl⟩ | ⟨hf, rfl⟩
        · exact lv_icmp_lt (tgt := pc') hx hb hdg ht (fun _ => (kk ls H locs hl hP hS)) (fun q => absurd (of_decide_eq_true hf) q)
        · exact lv_icmp_lt (tgt := tgt) hx hb hdg ht (fun q => absurd q (of_decide_eq_false hf)) (fun _ => (kk ls H locs hl hP hS))
      | ge =>
        rcases hc with ⟨hf, rfl⟩ | ⟨hf, rfl⟩
        · exact lv_icmp_ge (tgt := pc') hx hb hdg ht (fun _ => (kk ls H locs hl hP hS)) (fun q => absurd (of_decide_eq_true hf) q)
        · exact lv_icmp_ge (tgt := tgt) hx hb hdg ht (fun q => absurd q (of_decide_eq_false hf)) (fun _ => (kk ls H locs hl hP hS))
      | gt =>
        rcases hc with ⟨hf, rfl⟩ | ⟨hf, rfl⟩
        · exact lv_icmp_gt (tgt := pc') hx hb hdg ht (fun _ => (kk ls H locs hl hP hS)) (fun q => absurd (of_decide_eq_true hf) q)
        · exact lv_icmp_gt (tgt := tgt) hx hb hdg ht (fun q => absurd q (of_decide_eq_false hf)) (fun _ => (kk ls H locs hl hP hS))
      | le =>
        rcases hc with ⟨hf, rfl⟩ | ⟨hf, rfl⟩
        · exact lv_icmp_le (tgt := pc') hx hb hdg ht (fun _ => (kk ls H locs hl hP hS)) (fun q => absurd (of_decide_eq_true hf) q)
        · exact lv_icmp_le (tgt := tgt) hx hb hdg ht (fun q => absurd q (of_decide_eq_false hf)) (fun _ => (kk ls H locs hl hP hS))
    · cases hs
  | ifnull off =>
    simp only [mx_lenok, beq_iff_eq] at hlen; subst hlen
    simp only [mx_step] at hs
    split at hs
    · obtain ⟨ht, rfl, rfl, rfl⟩ := mx_q_to hs
      exact lv_ifnullN (tgt := pc') hx hb hdg ht (kk ls H locs hl hP hS)
    · obtain ⟨rfl, rfl, rfl, rfl⟩ := mx_q_nx hs
      exact lv_ifnull hx hb hdg (kk ls H locs hl hP hS)
    · cases hs
  | goto off =>
    simp only [mx_lenok, beq_iff_eq] at hlen; subst hlen
    simp only [mx_step] at hs
    obtain ⟨ht, rfl, rfl, rfl⟩ := mx_q_to hs
    exact lv_goto (tgt := pc') hx hb hdg ht (kk ls H locs hl hP hS)
  | tableswitch df lo hi offs =>
    simp only [mx_step] at hs
    split at hs
    · split at hs
      · rename_i hc
        obtain ⟨ht, rfl, rfl, rfl⟩ := mx_q_to hs
        exact lv_tableOut (tgt := pc') hx hb hdg hc ht (kk ls H locs hl hP hS)
      · rename_i hc
        split at hs
        · rename_i off ho
          obtain ⟨ht, rfl, rfl, rfl⟩ := mx_q_to hs
          exact lv_tableIn (tgt := pc') hx hb hdg (fun q => hc (Or.inl q)) (fun q => hc (Or.inr q)) ho ht (kk ls H locs hl hP hS)
        · cases hs
    · cases hs
  | lookupswitch df ps =>
    simp only [mx_step] at hs
    split at hs
    · split at hs
      · rename_i hc
        obtain ⟨ht, rfl, rfl, rfl⟩ := mx_q_to hs
        exact lv_lookup (tgt := pc') hx hb hdg hc rfl ht (kk ls H locs hl hP hS)
      · cases hs
    · cases hs
  | _ => first | cases hsel | (simp [mx_grp] at hsel)
set_option maxHeartbeats 4000000 in
set_option maxRecDepth 100000 in
theorem mx_one_g3 {g : MXG} {X : MXX} {k : Nat} {em : MXM} {n0 z0 d pc len pc' : Nat} {i : Instr} {ll st ll' st' : List Value} {h h' : MXH} {ls : Array Slot} (F : mx_Fr p s m args meth c g X k em n0) (hat : mx_at k pc = some (i, len))
    (hs : mx_step X d k pc i ll st h = some (.inl (pc', ll', st', h'))) (hl : mx_lv g ls em.2.2.1 ll) (hP : va_P (mx_DD g) vwCl (mx_ws g h) H) (hS : va_S (mx_A g) s.heap H locs) (hn : n0 ≤ h.length) (hz : z0 ≤ mx_sz h) (hRc : h'.length - n0 ≤ R.cells) (hRs : mx_sz h' - z0 ≤ R.slots) (hRf : d ≤ R.frames) (hRl : 64 * d ≤ R.locals)
    (kk : mx_KK p l e R s m args below meth c Q g em.2.2.1 n0 z0 pc' ll' st' h') (hsel : mx_grp i = 3) : W p l e R s m args below meth c H locs (h.length - n0) (mx_sz h - z0) Q (F0 m pc ls (st.map (mx_cv g))) := by
  obtain ⟨hM, hx, hb, hr, hml, hown, hts, hlk, hnm, hK, hs0⟩ := F
  obtain ⟨em', hem, hdg, hmem⟩ := mx_at_mem hat
  cases hM.symm.trans hem
  have hlen := mx_len_at hM hmem
  have how := mx_ow_eq hM
  cases i with
  | ldc idx =>
    simp only [mx_lenok, beq_iff_eq] at hlen; subst hlen
    simp only [mx_step] at hs
    split at hs
    · rename_i v hv
      obtain ⟨rfl, rfl, rfl, rfl⟩ := mx_q_nx hs
      unfold mx_lc at hv
      split at hv
      · rename_i hc
        cases hv
        obtain ⟨h1, rfl⟩ := hc
        rw [how] at h1
        rw [h1] at hown
        exact va_ldcS hx hb hown hK.2.2.2.2.2.2.2.2.2.2.1 hdg (kk ls H locs hl hP hS)
      · split at hv
        · rename_i hc
          cases hv
          obtain ⟨h1, rfl⟩ := hc
          rw [how] at h1
          rw [h1] at hown
          exact va_ldcS hx hb hown hK.2.2.2.2.2.2.2.2.2.2.2 hdg (kk ls H locs hl hP hS)
        · split at hv
          · rename_i w hw
            cases hv
            obtain ⟨hm, e1, e2⟩ := mx_lk_mem hw
            have h1 := List.all_eq_true.mp mx_KI_ok _ hm
            simp only [decide_eq_true_eq] at h1
            rw [e1, e2, how] at h1
            exact lv_ldc hx hb hown (hts _ (mx_T_mem (List.mem_of_getElem? h1) rfl)) hdg (kk ls H locs hl hP hS)
          · cases hv
    · cases hs
  | ldc_w idx =>
    simp only [mx_lenok, beq_iff_eq] at hlen; subst hlen
    simp only [mx_step] at hs
    split at hs
    · rename_i w hw
      obtain ⟨rfl, rfl, rfl, rfl⟩ := mx_q_nx hs
      obtain ⟨hm, e1, e2⟩ := mx_lk_mem hw
      have h1 := List.all_eq_true.mp mx_KI_ok _ hm
      simp only [decide_eq_true_eq] at h1
      rw [e1, e2, how] at h1
      exact lv_ldcw hx hb hown (hts _ (mx_T_mem (List.mem_of_getElem? h1) rfl)) hdg (kk ls H locs hl hP hS)
    · cases hs
  | ldc2_w idx =>
    simp only [mx_lenok, beq_iff_eq] at hlen; subst hlen
    simp only [mx_step] at hs
    split at hs
    · rename_i w hw
      obtain ⟨rfl, rfl, rfl, rfl⟩ := mx_q_nx hs
      obtain ⟨hm, e1, e2⟩ := mx_lk_mem hw
      have h1 := List.all_eq_true.mp mx_KL_ok _ hm
      simp only [decide_eq_true_eq] at h1
      rw [e1, e2, how] at h1
      exact lv_ldc2 hx hb hown (hts _ (mx_T_mem (List.mem_of_getElem? h1) rfl)) hdg (kk ls H locs hl hP hS)
    · cases hs
  | getstatic idx =>
    simp only [mx_lenok, beq_iff_eq] at hlen; subst hlen
    simp only [mx_step] at hs
    split at hs
    · rename_i v hv
      obtain ⟨rfl, rfl, rfl, rfl⟩ := mx_q_nx hs
      unfold mx_gs at hv
      split at hv
      · rename_i hc
        cases hv
        obtain ⟨h1, rfl⟩ := hc
        rw [how] at h1
        rw [h1] at hown
        exact va_gets hx hb hK.2.2.2.2.2.1 hS hown (hts (.fieldLink "FallingSlates" 323 "FallingSlates" "CUTS" "[I") (by decide +kernel)) (fun _ q => q) hdg (kk ls H locs hl hP hS)
      · split at hv
        · rename_i hc
          cases hv
          obtain ⟨h1, rfl⟩ := hc
          rw [how] at h1
          rw [h1] at hown
          exact va_gets hx hb hK.2.2.2.2.2.2.1 hS hown (hts (.fieldLink "java/lang/String" 38 "java/lang/String" "COMPACT_STRINGS" "Z") (by decide +kernel)) (fun _ q => q) hdg (kk ls H locs hl hP hS)
        · cases hv
    · cases hs
  | _ => first | cases hsel | (simp [mx_grp] at hsel)
set_option maxHeartbeats 4000000 in
set_option maxRecDepth 100000 in
theorem mx_one_g4 {g : MXG} {X : MXX} {k : Nat} {em : MXM} {n0 z0 d pc len pc' : Nat} {i : Instr} {ll st ll' st' : List Value} {h h' : MXH} {ls : Array Slot} (F : mx_Fr p s m args meth c g X k em n0) (hat : mx_at k pc = some (i, len))
    (hs : mx_step X d k pc i ll st h = some (.inl (pc', ll', st', h'))) (hl : mx_lv g ls em.2.2.1 ll) (hP : va_P (mx_DD g) vwCl (mx_ws g h) H) (hS : va_S (mx_A g) s.heap H locs) (hn : n0 ≤ h.length) (hz : z0 ≤ mx_sz h) (hRc : h'.length - n0 ≤ R.cells) (hRs : mx_sz h' - z0 ≤ R.slots) (hRf : d ≤ R.frames) (hRl : 64 * d ≤ R.locals)
    (kk : mx_KK p l e R s m args below meth c Q g em.2.2.1 n0 z0 pc' ll' st' h') (hsel : mx_grp i = 4) : W p l e R s m args below meth c H locs (h.length - n0) (mx_sz h - z0) Q (F0 m pc ls (st.map (mx_cv g))) := by
  obtain ⟨hM, hx, hb, hr, hml, hown, hts, hlk, hnm, hK, hs0⟩ := F
  obtain ⟨em', hem, hdg, hmem⟩ := mx_at_mem hat
  cases hM.symm.trans hem
  have hlen := mx_len_at hM hmem
  have how := mx_ow_eq hM
  cases i with
  | iaload =>
    simp only [mx_lenok, beq_iff_eq] at hlen; subst hlen
    simp only [mx_step] at hs
    unfold mx_iald at hs
    split at hs
    · rename_i i a rest
      split at hs
      · rename_i n f ha
        cases hin : mx_in i n with
        | true =>
          rw [hin] at hs
          obtain ⟨rfl, rfl, rfl, rfl⟩ := mx_q_nx hs
          exact va_iald hx hb hK.1 hP a 0 (mx_ws_at ha) rfl (mx_vp hin) hdg (kk ls H locs hl hP hS)
        | false => rw [hin] at hs; cases hs
      · cases hs
    · rename_i i w rest
      split at hs
      · rename_i n f ha
        cases hin : mx_in i n with
        | true =>
          rw [hin] at hs
          obtain ⟨rfl, rfl, rfl, rfl⟩ := mx_q_nx hs
          exact va_ti hx hb (hK.2.2.2.2.2.2.2.1 w n f ha) hS (mx_vp hin) rfl hdg (kk ls H locs hl hP hS)
        | false => rw [hin] at hs; cases hs
      · cases hs
    · cases hs
  | baload =>
    simp only [mx_lenok, beq_iff_eq] at hlen; subst hlen
    simp only [mx_step] at hs
    unfold mx_bald at hs
    split at hs
    · rename_i i a rest
      split at hs
      · rename_i n f ha
        cases hin : mx_in i n with
        | true =>
          rw [hin] at hs
          obtain ⟨rfl, rfl, rfl, rfl⟩ := mx_q_nx hs
          exact va_zald hx hb hK.1 hP a 1 (mx_ws_at ha) rfl (mx_vp hin) hdg (kk ls H locs hl hP hS)
        | false => rw [hin] at hs; cases hs
      · cases hs
    · rename_i i w rest
      split at hs
      · rename_i n f ha
        cases hin : mx_in i n with
        | true =>
          rw [hin] at hs
          obtain ⟨rfl, rfl, rfl, rfl⟩ := mx_q_nx hs
          exact va_tb hx hb (hK.2.2.2.2.2.2.2.2.1 w n f ha) hS (mx_vp hin) rfl hdg (kk ls H locs hl hP hS)
        | false => rw [hin] at hs; cases hs
      · cases hs
    · cases hs
  | iastore =>
    simp only [mx_lenok, beq_iff_eq] at hlen; subst hlen
    simp only [mx_step] at hs
    unfold mx_iast at hs
    split at hs
    · rename_i x i a rest
      split at hs
      · rename_i n f ha
        cases hin : mx_in i n with
        | true =>
          rw [hin] at hs
          obtain ⟨rfl, rfl, rfl, rfl⟩ := mx_q_nx hs
          exact va_iast hx hb hK.1 hP (mx_ws_D g h) hS a 0 (mx_ws_at ha) rfl (mx_vp hin) hdg (fun H1 locs1 hP1 _ hS1 => kk.set ha rfl hl hP1 hS1)
        | false => rw [hin] at hs; cases hs
      · cases hs
    · cases hs
  | bastore =>
    simp only [mx_lenok, beq_iff_eq] at hlen; subst hlen
    simp only [mx_step] at hs
    unfold mx_bast at hs
    split at hs
    · rename_i x i a rest
      split at hs
      · rename_i n f ha
        cases hin : mx_in i n with
        | true =>
          rw [hin] at hs
          obtain ⟨rfl, rfl, rfl, rfl⟩ := mx_q_nx hs
          exact va_zast hx hb hK.1 hP (mx_ws_D g h) hS a 1 (mx_ws_at ha) rfl (mx_vp hin) hdg (fun H1 locs1 hP1 _ hS1 => kk.set ha rfl hl hP1 hS1)
        | false => rw [hin] at hs; cases hs
      · cases hs
    · cases hs
  | aaload =>
    simp only [mx_lenok, beq_iff_eq] at hlen; subst hlen
    simp only [mx_step] at hs
    unfold mx_aald at hs
    split at hs
    · rename_i i a rest
      split at hs
      · rename_i kd n f ha
        cases hin : (mx_in i n && (mx_cmp kd).isSome) with
        | true =>
          rw [hin] at hs
          obtain ⟨rfl, rfl, rfl, rfl⟩ := mx_q_nx hs
          simp only [Bool.and_eq_true] at hin
          obtain ⟨cc, hcc⟩ := Option.isSome_iff_exists.mp hin.2
          obtain ⟨C, hty⟩ := mx_cmp_ty g hcc
          have k2 := (kk ls H locs hl hP hS)
          rw [List.map_cons] at k2
          refine va_aldq hx hb hK.1 hP a kd (mx_ws_at ha) hty (mx_vp hin.1) hdg ?_
          rw [show mx_cv g (mx_vr (f i.toNatClampNeg)) = va_rf ((f i.toNatClampNeg).map (fun a => g.1 + a)) by cases f i.toNatClampNeg <;> rfl] at k2
          exact k2
        | false => rw [hin] at hs; cases hs
      · cases hs
    · cases hs
  | arraylength =>
    simp only [mx_lenok, beq_iff_eq] at hlen; subst hlen
    simp only [mx_step] at hs
    unfold mx_alen at hs
    split at hs
    · rename_i a rest
      split at hs
      · rename_i n f ha
        obtain ⟨rfl, rfl, rfl, rfl⟩ := mx_q_nx hs
        exact va_alen hx hb hK.1 hP a 0 (mx_ws_at ha) (ty := .int) rfl rfl hdg (kk ls H locs hl hP hS)
      · cases hs
    · rename_i w rest
      split at hs
      · rename_i n f ha
        obtain ⟨rfl, rfl, rfl, rfl⟩ := mx_q_nx hs
        exact va_tlen hx hb (hK.2.2.2.2.2.2.2.1 w n f ha) hS rfl hdg (kk ls H locs hl hP hS)
      · split at hs
        · rename_i n f ha
          obtain ⟨rfl, rfl, rfl, rfl⟩ := mx_q_nx hs
          exact va_tlen hx hb (hK.2.2.2.2.2.2.2.2.1 w n f ha) hS rfl hdg (kk ls H locs hl hP hS)
        · cases hs
    · cases hs
  | _ => first | cases hsel | (simp [mx_grp] at hsel)
set_option maxHeartbeats 4000000 in
set_option maxRecDepth 100000 in
theorem mx_one_g5 {g : MXG} {X : MXX} {k : Nat} {em : MXM} {n0 z0 d pc len pc' : Nat} {i : Instr} {ll st ll' st' : List Value} {h h' : MXH} {ls : Array Slot} (F : mx_Fr p s m args meth c g X k em n0) (hat : mx_at k pc = some (i, len))
    (hs : mx_step X d k pc i ll st h = some (.inl (pc', ll', st', h'))) (hl : mx_lv g ls em.2.2.1 ll) (hP : va_P (mx_DD g) vwCl (mx_ws g h) H) (hS : va_S (mx_A g) s.heap H locs) (hn : n0 ≤ h.length) (hz : z0 ≤ mx_sz h) (hRc : h'.length - n0 ≤ R.cells) (hRs : mx_sz h' - z0 ≤ R.slots) (hRf : d ≤ R.frames) (hRl : 64 * d ≤ R.locals)
    (kk : mx_KK p l e R s m args below meth c Q g em.2.2.1 n0 z0 pc' ll' st' h') (hsel : mx_grp i = 5) : W p l e R s m args below meth c H locs (h.length - n0) (mx_sz h - z0) Q (F0 m pc ls (st.map (mx_cv g))) := by
  obtain ⟨hM, hx, hb, hr, hml, hown, hts, hlk, hnm, hK, hs0⟩ := F
  obtain ⟨em', hem, hdg, hmem⟩ := mx_at_mem hat
  cases hM.symm.trans hem
  have hlen := mx_len_at hM hmem
  have how := mx_ow_eq hM
  cases i with
  | aastore =>
    simp only [mx_lenok, beq_iff_eq] at hlen; subst hlen
    simp only [mx_step] at hs
    unfold mx_aast at hs
    split at hs
    · rename_i v i a rest
      split at hs
      · rename_i kd n f ha
        split at hs
        · rename_i ci fs cc hv hcc
          cases hin : (mx_in i n && mx_sub ci cc) with
          | true =>
            rw [hin] at hs
            obtain ⟨rfl, rfl, rfl, rfl⟩ := mx_q_nx hs
            simp only [Bool.and_eq_true] at hin
            have hty := mx_cmp_ty' g hcc
            obtain ⟨C, T, N, hcl⟩ := mx_sub_cl hin.2
            obtain ⟨ty, -, -, -, -, hC⟩ := mx_cls hcl
            have hany : va_Any (mx_cn cc) s H (g.1 + v) := by
              refine va_rAny hK.1 hP (mx_ws_at hv) hcl ?_
              intro comp c0 f1 f2
              by_cases hq : ci = cc
              · subst hq
                rw [hC] at f2
                have : comp = c0 := Option.some.inj (f1.symm.trans f2)
                subst this
                have h3 := (hK.1.1 ci _ hcl).2
                exact va_assign (C := mx_cn ci) ⟨f1, (by
                  obtain ⟨q1, kq, q2, q3⟩ := h3
                  rw [hC] at q1
                  rw [Option.some.inj (f1.symm.trans q1)]
                  exact ⟨kq, q2, q3⟩)⟩
              · exact vb_asgC (hK.2.2.2.1 ci cc hin.2 hq) comp c0 f1 (by rw [← hC]; exact f2)
            have hset := fun (H1 : Heap) (locs1 : List Loc) (hP1 : va_P (mx_DD g) vwCl ((mx_ws g h).set a (g.1 + a, mx_ce g (.inl (kd, n, mx_rfs (va_up f i.toNatClampNeg (some v)))))) H1) (hS1 : va_S (mx_A g) s.heap H1 locs1) => kk.set ha rfl hl hP1 hS1
            refine va_astqM hx hb hK.1 hP (mx_ws_D g h) hS a kd (mx_ws_at ha) hty hany (mx_vp hin.1) hdg (fun H1 locs1 hP1 _ hS1 => hset H1 locs1 ?_ hS1)
            have hfe : (fun j => (va_up f i.toNatClampNeg (some v) j).map (fun a => g.1 + a)) = va_up (fun j => (f j).map (fun a => g.1 + a)) i.toNatClampNeg (some (g.1 + v)) := by
              funext j
              unfold va_up
              split <;> rfl
            show va_P (mx_DD g) vwCl ((mx_ws g h).set a (g.1 + a, .inl (g.2.2.1 kd, n, mx_rfs (fun j => (va_up f i.toNatClampNeg (some v) j).map (fun a => g.1 + a))))) H1
            rw [hfe]
            exact hP1
          | false => rw [hin] at hs; cases hs
        · cases hs
      · cases hs
    · rename_i i a rest
      split at hs
      · rename_i kd n f ha
        cases hin : (mx_in i n && (mx_cmp kd).isSome) with
        | true =>
          rw [hin] at hs
          obtain ⟨rfl, rfl, rfl, rfl⟩ := mx_q_nx hs
          simp only [Bool.and_eq_true] at hin
          obtain ⟨cc, hcc⟩ := Option.isSome_iff_exists.mp hin.2
          obtain ⟨C, hty⟩ := mx_cmp_ty g hcc
          have hset := fun (H1 : Heap) (locs1 : List Loc) (hP1 : va_P (mx_DD g) vwCl ((mx_ws g h).set a (g.1 + a, mx_ce g (.inl (kd, n, mx_rfs (va_up f i.toNatClampNeg none))))) H1) (hS1 : va_S (mx_A g) s.heap H1 locs1) => kk.set ha rfl hl hP1 hS1
          refine va_astqN hx hb hK.1 hP (mx_ws_D g h) hS a kd (mx_ws_at ha) hty (mx_vp hin.1) hdg (fun H1 locs1 hP1 _ hS1 => hset H1 locs1 ?_ hS1)
          have hfe : (fun j => (va_up f i.toNatClampNeg none j).map (fun a => g.1 + a)) = va_up (fun j => (f j).map (fun a => g.1 + a)) i.toNatClampNeg none := by
            funext j
            unfold va_up
            split <;> rfl
          show va_P (mx_DD g) vwCl ((mx_ws g h).set a (g.1 + a, .inl (g.2.2.1 kd, n, mx_rfs (fun j => (va_up f i.toNatClampNeg none j).map (fun a => g.1 + a))))) H1
          rw [hfe]
          exact hP1
        | false => rw [hin] at hs; cases hs
      · cases hs
    · cases hs
  | _ => first | cases hsel | (simp [mx_grp] at hsel)
set_option maxHeartbeats 4000000 in
set_option maxRecDepth 100000 in
theorem mx_one_g6 {g : MXG} {X : MXX} {k : Nat} {em : MXM} {n0 z0 d pc len pc' : Nat} {i : Instr} {ll st ll' st' : List Value} {h h' : MXH} {ls : Array Slot} (F : mx_Fr p s m args meth c g X k em n0) (hat : mx_at k pc = some (i, len))
    (hs : mx_step X d k pc i ll st h = some (.inl (pc', ll', st', h'))) (hl : mx_lv g ls em.2.2.1 ll) (hP : va_P (mx_DD g) vwCl (mx_ws g h) H) (hS : va_S (mx_A g) s.heap H locs) (hn : n0 ≤ h.length) (hz : z0 ≤ mx_sz h) (hRc : h'.length - n0 ≤ R.cells) (hRs : mx_sz h' - z0 ≤ R.slots) (hRf : d ≤ R.frames) (hRl : 64 * d ≤ R.locals)
    (kk : mx_KK p l e R s m args below meth c Q g em.2.2.1 n0 z0 pc' ll' st' h') (hsel : mx_grp i = 6) : W p l e R s m args below meth c H locs (h.length - n0) (mx_sz h - z0) Q (F0 m pc ls (st.map (mx_cv g))) := by
  obtain ⟨hM, hx, hb, hr, hml, hown, hts, hlk, hnm, hK, hs0⟩ := F
  obtain ⟨em', hem, hdg, hmem⟩ := mx_at_mem hat
  cases hM.symm.trans hem
  have hlen := mx_len_at hM hmem
  have how := mx_ow_eq hM
  cases i with
  | getfield idx =>
    simp only [mx_lenok, beq_iff_eq] at hlen; subst hlen
    simp only [mx_step] at hs
    unfold mx_getf at hs
    split at hs
    · rename_i a rest
      split at hs
      · rename_i ci fs j rc pp cs ha hfd
        split at hs
        · rename_i sp v hcs hv
          obtain ⟨rfl, rfl, rfl, rfl⟩ := mx_q_nx hs
          obtain ⟨C, T, N, hcl, hj, hlink, hsame⟩ := mx_fd_ok hfd hcs
          obtain ⟨ty, hty, hws, hpt, hnam, -⟩ := mx_cls hcl
          rw [how] at hlink
          refine va_get (v := mx_cv g v) hx hb hts hws hown hK.1 hP a (mx_ws_at ha) hcl j hj (hts _ (mx_T_mem hlink rfl)) ?_ (by rw [List.getElem?_map, hv]; rfl) hdg (kk ls H locs hl hP hS)
          intro x hx0
          rcases hsame with q | q
          · rw [q]; exact hx0
          · exact u_same (hts _ (mx_T_mem q rfl)) x hx0
        · cases hs
      · cases hs
    · rename_i w rest
      split at hs
      · rename_i v hv
        obtain ⟨rfl, rfl, rfl, rfl⟩ := mx_q_nx hs
        unfold mx_xf at hv
        split at hv
        · rename_i hc
          obtain ⟨h1, rfl⟩ := hc
          rw [how] at h1
          rw [h1] at hown
          split at hv
          · rename_i hw
            subst hw
            cases hv
            exact vk_getf hx hb (hK.2.2.2.2.2.2.2.2.2.1 2 (Or.inl rfl)).2.2 hS hown (hts (.fieldLink "java/lang/String" 9 "java/lang/String" "value" "[B") (by decide +kernel)) (fun _ q => q) hdg (kk ls H locs hl hP hS)
          · split at hv
            · rename_i hw
              subst hw
              cases hv
              exact vk_getf hx hb (hK.2.2.2.2.2.2.2.2.2.1 3 (Or.inr rfl)).2.2 hS hown (hts (.fieldLink "java/lang/String" 9 "java/lang/String" "value" "[B") (by decide +kernel)) (fun _ q => q) hdg (kk ls H locs hl hP hS)
            · cases hv
        · split at hv
          · rename_i hc
            obtain ⟨h1, rfl, hw⟩ := hc
            rw [how] at h1
            rw [h1] at hown
            cases hv
            exact vk_getf hx hb (hK.2.2.2.2.2.2.2.2.2.1 w hw).2.1 hS hown (hts (.fieldLink "java/lang/String" 15 "java/lang/String" "coder" "B") (by decide +kernel)) (fun _ q => q) hdg (kk ls H locs hl hP hS)
          · cases hv
      · cases hs
    · cases hs
  | putfield idx =>
    simp only [mx_lenok, beq_iff_eq] at hlen; subst hlen
    simp only [mx_step] at hs
    unfold mx_putf at hs
    split at hs
    · rename_i v a rest
      split at hs
      · rename_i ci fs j rc pp cs ha hfd
        split at hs
        · rename_i sp ty fin dc hcs hft
          cases hok : (mx_fit ty v && decide (j < fs.length) && (!fin || (mx_isInit k && decide (dc = mx_cn (mx_ow k))))) with
          | true =>
            rw [hok] at hs
            obtain ⟨rfl, rfl, rfl, rfl⟩ := mx_q_nx hs
            simp only [Bool.and_eq_true, Bool.or_eq_true, Bool.not_eq_true', decide_eq_true_eq] at hok
            obtain ⟨⟨hfit, hjl⟩, hfin⟩ := hok
            obtain ⟨C, T, N, hcl, hj, hlink, hsame⟩ := mx_fd_ok hfd hcs
            obtain ⟨ty0, hty, hws, hpt, hnam, -⟩ := mx_cls hcl
            rw [how] at hlink
            unfold mx_ftT at hft
            rw [hcl, hty] at hft
            simp only [Option.some.injEq, Prod.mk.injEq] at hft
            obtain ⟨rfl, rfl, rfl⟩ := hft
            obtain ⟨hnw, hfs⟩ := mx_fit_ok (g := g) hfit
            have hsm : ∀ x, s.fieldFound? (T j).1 (T j).2.1 (T j).2.2.1 = some x → s.fieldFound? (mx_cn rc) (T j).2.1 (T j).2.2.1 = some x := by
              intro x hx0
              rcases hsame with q | q
              · rw [q]; exact hx0
              · exact u_same (hts _ (mx_T_mem q rfl)) x hx0
            have hce : mx_ce g (.inr (ci, fs.set j v)) = .inr (ci, (fs.map (mx_cv g)).set j (mx_cv g v)) := by
              show Sum.inr (ci, (fs.set j v).map (mx_cv g)) = _
              rw [List.map_set]
            have hw0 : mx_w (.inr (ci, fs.set j v)) = mx_w (.inr (ci, fs)) := by simp [mx_w]
            cases hf : (T j).2.2.2 with
            | false =>
              exact va_put (v := mx_cv g v) hx hb hts hws ty0 hpt hnam hown hK.1 hP (mx_ws_D g h) hS a (mx_ws_at ha) hcl j hj (hts _ (mx_T_mem hlink rfl)) hsm hf (hpt j hj) hnw hfs (by rw [List.length_map]; exact hjl) hdg (fun H1 locs1 hP1 _ hS1 => kk.set ha hw0 hl (by rw [hce]; exact hP1) hS1)
            | true =>
              rw [hf] at hfin
              simp only [Bool.true_eq_false, false_or] at hfin
              have hini : em.1.name = "<init>" := by
                have := hfin.1
                unfold mx_isInit at this
                rw [hM] at this
                exact of_decide_eq_true this
              exact va_putF (v := mx_cv g v) hx hb hts hws ty0 hpt hnam hown hK.1 hP (mx_ws_D g h) hS a (mx_ws_at ha) hcl j hj (hts _ (mx_T_mem hlink rfl)) hsm hf (hnm hini) (by rw [hfin.2, how]) (hpt j hj) hnw hfs (by rw [List.length_map]; exact hjl) hdg (fun H1 locs1 hP1 _ hS1 => kk.set ha hw0 hl (by rw [hce]; exact hP1) hS1)
          | false => rw [hok] at hs; cases hs
        · cases hs
      · cases hs
    · cases hs
  | _ => first | cases hsel | (simp [mx_grp] at hsel)
set_option maxHeartbeats 4000000 in
set_option maxRecDepth 100000 in
theorem mx_one_g7 {g : MXG} {X : MXX} {k : Nat} {em : MXM} {n0 z0 d pc len pc' : Nat} {i : Instr} {ll st ll' st' : List Value} {h h' : MXH} {ls : Array Slot} (F : mx_Fr p s m args meth c g X k em n0) (hat : mx_at k pc = some (i, len))
    (hs : mx_step X d k pc i ll st h = some (.inl (pc', ll', st', h'))) (hl : mx_lv g ls em.2.2.1 ll) (hP : va_P (mx_DD g) vwCl (mx_ws g h) H) (hS : va_S (mx_A g) s.heap H locs) (hn : n0 ≤ h.length) (hz : z0 ≤ mx_sz h) (hRc : h'.length - n0 ≤ R.cells) (hRs : mx_sz h' - z0 ≤ R.slots) (hRf : d ≤ R.frames) (hRl : 64 * d ≤ R.locals)
    (kk : mx_KK p l e R s m args below meth c Q g em.2.2.1 n0 z0 pc' ll' st' h') (hsel : mx_grp i = 7) : W p l e R s m args below meth c H locs (h.length - n0) (mx_sz h - z0) Q (F0 m pc ls (st.map (mx_cv g))) := by
  obtain ⟨hM, hx, hb, hr, hml, hown, hts, hlk, hnm, hK, hs0⟩ := F
  obtain ⟨em', hem, hdg, hmem⟩ := mx_at_mem hat
  cases hM.symm.trans hem
  have hlen := mx_len_at hM hmem
  have how := mx_ow_eq hM
  cases i with
  | new idx =>
    simp only [mx_lenok, beq_iff_eq] at hlen; subst hlen
    simp only [mx_step] at hs
    unfold mx_new at hs
    split at hs
    · rename_i ci pp hci
      split at hs
      · rename_i fs hfs
        obtain ⟨rfl, rfl, rfl, rfl⟩ := mx_q_nx hs
        obtain ⟨hm, e1, e2⟩ := mx_lk_mem hci
        have h1 := List.all_eq_true.mp mx_CL_ok _ hm
        simp only [decide_eq_true_eq] at h1
        rw [e1, e2, how] at h1
        obtain ⟨C, T, N, hcl⟩ : ∃ C T N, vwCl[ci]? = some (C, T, N) := by
          have hlt : ci < mx_dfL.length := (List.getElem?_eq_some_iff.mp hfs).1
          have hlt : ci < vwCl.length := hlt
          exact ⟨_, _, _, List.getElem?_eq_getElem hlt⟩
        obtain ⟨ty, hty, hws, hpt, hnam, hC⟩ := mx_cls hcl
        obtain ⟨hi1, hi2⟩ := mx_cls_new hcl
        obtain ⟨hd1, hd2⟩ := mx_cls_df hcl hty hfs
        have hKn := hK.1.1 ci _ hcl
        have hlink : (Cond.classLink (mx_cn em.2.2.2.2.1) idx C).before args s = true := by rw [hC]; exact hts _ (mx_T_mem (List.mem_of_getElem? h1) rfl)
        rw [List.length_append, List.length_singleton] at hRc
        rw [mx_sz_push, show mx_w (.inr (ci, fs)) = N from hd2] at hRs
        refine mx_size hs0 hn hP hS fun hsz => ?_
        refine W.newcK hx hb hown hlink (hts _ (mx_T_mem hi1 rfl)) (hts _ (mx_T_mem hi2 rfl)) rfl hdg (by omega) (by omega) hKn.2.1 hsz fun H1 kC hkC e1 z1 o1 => ?_
        have hnul : fs.map (mx_cv g) = fs := by
          have : ∀ v ∈ fs, mx_cv g v = v := mx_df_cv g hfs
          exact (List.map_congr_left this).trans (List.map_id _)
        refine kk.push hn hz hd2 hl hP hS hsz z1 o1 ?_
        show va_at (mx_DD g) vwCl (g.1 + h.length, .inr (ci, fs.map (mx_cv g))) H1
        rw [hnul]
        exact ⟨_, hcl, (u_born ty hts hws hKn hkC e1 hpt).to hd1⟩
      · cases hs
    · cases hs
  | anewarray idx =>
    simp only [mx_lenok, beq_iff_eq] at hlen; subst hlen
    simp only [mx_step] at hs
    unfold mx_anew at hs
    split at hs
    · rename_i ci pp hci
      split at hs
      · rename_i kd n rest hkd
        split at hs
        · rename_i hnn
          obtain ⟨rfl, rfl, rfl, rfl⟩ := mx_q_nx hs
          obtain ⟨hm, e1, e2⟩ := mx_lk_mem hci
          have h1 := List.all_eq_true.mp mx_CL_ok _ hm
          simp only [decide_eq_true_eq] at h1
          rw [e1, e2, how] at h1
          have hcmp := mx_ak_cmp hkd
          have hty := mx_cmp_ty' g hcmp
          rw [List.length_append, List.length_singleton] at hRc
          rw [mx_sz_push, show mx_w (.inl (kd, n.toNatClampNeg, mx_rfs (fun _ => none))) = n.toNatClampNeg from rfl] at hRs
          refine mx_size hs0 hn hP hS fun hsz => ?_
          refine W.anew (C := mx_cn ci) hx hb hown (hts _ (mx_T_mem (List.mem_of_getElem? h1) rfl)) (va_AO.use (hK.2.1 kd ci hcmp)) rfl hdg rfl (Int32.not_lt.mpr hnn.1) (by omega) (by omega) (by omega) fun cA kA comp f1 f2 f3 f4 => ?_
          have hcA : cA = g.2.2.1 kd := by
            obtain ⟨kA', comp', q1, q2, q3, q4⟩ := (hK.1.2 kd _ hty).2
            exact Option.some.inj (f1.symm.trans q4)
          subst hcA
          rw [hsz]
          refine kk.push hn hz rfl hl hP hS hsz (by rw [Array.size_push, hsz]) (fun q hq => by rw [Array.getElem?_push, hsz, if_neg (Nat.ne_of_lt hq)]) ?_
          show (H.push _)[g.1 + h.length]? = some (vp_cell _ _)
          show (H.push _)[g.1 + h.length]? = some (arrV (g.2.2.1 kd) n.toNatClampNeg (fun _ => .null))
          rw [← hsz, Array.getElem?_push_size, ← arrV_new]
        · cases hs
      · cases hs
    · cases hs
  | newarray at0 =>
    simp only [mx_lenok, beq_iff_eq] at hlen; subst hlen
    cases at0 with
    | int =>
      simp only [mx_step] at hs
      unfold mx_newarr at hs
      split at hs
      · rename_i n rest
        split at hs
        · rename_i hnn
          obtain ⟨rfl, rfl, rfl, rfl⟩ := mx_q_nx hs
          rw [List.length_append, List.length_singleton] at hRc
          rw [mx_sz_push, show mx_w (.inl (0, n.toNatClampNeg, .inl (fun _ => 0))) = n.toNatClampNeg from rfl] at hRs
          refine mx_size hs0 hn hP hS fun hsz => ?_
          refine va_newaK (atype := .int) hx hb (hts _ mx_T_int) rfl hdg rfl (Int32.not_lt.mpr hnn.1) rfl (by show n.toNatClampNeg * 4 ≤ 536870912; omega) (by omega) (by omega) hsz fun H1 cA e1 z1 o1 hAr hNm => ?_
          have hcA : cA = g.2.2.1 0 := by
            have q4 : s.vm.findClass ("[" ++ FieldType.int.toString) = some (g.2.2.1 0) := (hK.1.2 0 _ rfl).2
            exact Option.some.inj (hNm.symm.trans q4)
          subst hcA
          exact kk.push hn hz rfl hl hP hS hsz z1 o1 e1
        · cases hs
      · cases hs
    | boolean =>
      simp only [mx_step] at hs
      unfold mx_newarr at hs
      split at hs
      · rename_i n rest
        split at hs
        · rename_i hnn
          obtain ⟨rfl, rfl, rfl, rfl⟩ := mx_q_nx hs
          rw [List.length_append, List.length_singleton] at hRc
          rw [mx_sz_push, show mx_w (.inl (1, n.toNatClampNeg, .inl (fun _ => 0))) = n.toNatClampNeg from rfl] at hRs
          refine mx_size hs0 hn hP hS fun hsz => ?_
          refine va_newaK (atype := .boolean) hx hb (hts _ mx_T_bool) rfl hdg rfl (Int32.not_lt.mpr hnn.1) rfl (by show n.toNatClampNeg * 1 ≤ 536870912; omega) (by omega) (by omega) hsz fun H1 cA e1 z1 o1 hAr hNm => ?_
          have hcA : cA = g.2.2.1 1 := by
            have q4 : s.vm.findClass ("[" ++ FieldType.boolean.toString) = some (g.2.2.1 1) := (hK.1.2 1 _ rfl).2
            exact Option.some.inj (hNm.symm.trans q4)
          subst hcA
          exact kk.push hn hz rfl hl hP hS hsz z1 o1 e1
        · cases hs
      · cases hs
    | _ => simp only [mx_step] at hs; cases hs
  | instanceof idx =>
    simp only [mx_lenok, beq_iff_eq] at hlen; subst hlen
    simp only [mx_step] at hs
    unfold mx_inst at hs
    split at hs
    · rename_i a rest t pp hci
      split at hs
      · rename_i ci fs ha
        cases hok : (mx_selr ci && mx_selr t) with
        | true =>
          rw [hok] at hs
          obtain ⟨rfl, rfl, rfl, rfl⟩ := mx_q_nx hs
          simp only [Bool.and_eq_true] at hok
          obtain ⟨hm, e1, e2⟩ := mx_lk_mem hci
          have h1 := List.all_eq_true.mp mx_CL_ok _ hm
          simp only [decide_eq_true_eq] at h1
          rw [e1, e2, how] at h1
          have hlink := hts _ (mx_T_mem (List.mem_of_getElem? h1) rfl)
          obtain ⟨C, T, N, hcl⟩ := mx_selr_cl hok.1
          obtain ⟨ty, -, -, -, -, hC⟩ := mx_cls hcl
          have hrec := va_recv hK.1 hP hcl (mx_ws_at ha)
          rw [show ((C, T, N) : vw_C).1 = mx_cn ci from hC] at hrec
          cases hsb : mx_sub ci t with
          | true =>
            have k2 := (kk ls H locs hl hP hS)
            rw [hsb] at k2
            by_cases hq : ci = t
            · subst hq
              have h3 := (hK.1.1 ci _ hcl).2
              have h3 : ClassAt s C _ := h3
              rw [hC] at h3
              exact va_instS hx hb hown hlink h3 hrec hdg k2
            · exact va_instY hx hb hown hlink (hK.2.2.2.1 ci t hsb hq) hrec hdg k2
          | false =>
            have k2 := (kk ls H locs hl hP hS)
            rw [hsb] at k2
            exact va_instNo hx hb hown hlink (hK.2.2.2.2.1 ci t hok.1 hok.2 hsb) hrec hdg k2
        | false => rw [hok] at hs; cases hs
      · cases hs
    · cases hs
  | _ => first | cases hsel | (simp [mx_grp] at hsel)
set_option maxHeartbeats 4000000 in
set_option maxRecDepth 100000 in
theorem mx_one_g8 {g : MXG} {X : MXX} {k : Nat} {em : MXM} {n0 z0 d pc len pc' : Nat} {i : Instr} {ll st ll' st' : List Value} {h h' : MXH} {ls : Array Slot} (F : mx_Fr p s m args meth c g X k em n0) (hat : mx_at k pc = some (i, len))
    (hs : mx_step X d k pc i ll st h = some (.inl (pc', ll', st', h'))) (hl : mx_lv g ls em.2.2.1 ll) (hP : va_P (mx_DD g) vwCl (mx_ws g h) H) (hS : va_S (mx_A g) s.heap H locs) (hn : n0 ≤ h.length) (hz : z0 ≤ mx_sz h) (hRc : h'.length - n0 ≤ R.cells) (hRs : mx_sz h' - z0 ≤ R.slots) (hRf : d ≤ R.frames) (hRl : 64 * d ≤ R.locals)
    (kk : mx_KK p l e R s m args below meth c Q g em.2.2.1 n0 z0 pc' ll' st' h') (hsel : mx_grp i = 8) : W p l e R s m args below meth c H locs (h.length - n0) (mx_sz h - z0) Q (F0 m pc ls (st.map (mx_cv g))) := by
  obtain ⟨hM, hx, hb, hr, hml, hown, hts, hlk, hnm, hK, hs0⟩ := F
  obtain ⟨em', hem, hdg, hmem⟩ := mx_at_mem hat
  cases hM.symm.trans hem
  have hlen := mx_len_at hM hmem
  have how := mx_ow_eq hM
  cases i with
  | invokestatic idx =>
    simp only [mx_lenok, beq_iff_eq] at hlen; subst hlen
    simp only [mx_step] at hs
    unfold mx_cS at hs
    split at hs
    · split at hs
      · unfold mx_go at hs; split at hs <;> cases hs
      · cases hs
    · rename_i n qs hcl
      unfold mx_copy at hs
      split at hs
      · rename_i n dp a sp b rest
        split at hs
        · rename_i n0' f n1 f2 hb0 ha0
          split at hs
          · rename_i hc
            obtain ⟨c1, c2, c3, c4, c5, c6, c7⟩ := hc
            obtain ⟨rfl, rfl, rfl, rfl⟩ := mx_q_nx hs
            obtain ⟨q, hq⟩ := mx_cl_ne hcl
            have hw := (mx_call_ok hcl hq).1
            obtain ⟨em2, hem2⟩ := mx_cx_M (mx_call_ok hcl hq).2
            simp only [mx_cw, hem2, how] at hw
            have hsum := mx_rest (g := g) c7
            refine va_copyi (hexec := hx) (hb := hb) (hml := by rw [hml]; exact hl.1.symm) hown (hts _ (hw _ (by simp))) (hts _ (hw _ (by simp))) (hts _ (hw _ (by simp))) (hts _ (hw _ (by simp))) hK.1 hP (mx_ws_D g h) hS b a 0 0 (ty := .int) (mx_ws_at hb0) (mx_ws_at ha0) rfl rfl rfl (Int32.not_lt.mpr c3) (Int32.not_lt.mpr c2) (Int32.not_lt.mpr c1) c4 c5 (fun _ _ => rfl) (by omega) ?_ hdg (fun H1 locs1 hP1 _ hS1 => kk.set ha0 rfl hl hP1 hS1)
            have : nativeFrameWords "java/lang/System" "arraycopy" 5 = 7 := by decide
            omega
          · cases hs
        · cases hs
      · cases hs
    · rename_i n qs hcl
      unfold mx_mth at hs
      split at hs
      · rename_i y x rest
        split at hs
        · rename_i hc
          obtain ⟨rfl, rfl, rfl, rfl⟩ := mx_q_nx hs
          obtain ⟨q, hq⟩ := mx_cl_ne hcl
          have hw := (mx_call_ok hcl hq).1
          obtain ⟨em2, hem2⟩ := mx_cx_M (mx_call_ok hcl hq).2
          simp only [mx_cw, hem2, how] at hw
          have hsum := mx_rest (g := g) hc.2
          exact va_mmax (hexec := hx) (hb := hb) (hml := by rw [hml]; exact hl.1.symm) hown (hts _ (hw _ (by simp))) (hts _ (hw _ (by simp))) (hts _ (hw _ (by simp))) (hts _ (hw _ (by simp))) (by omega) (by omega) hRc hRs hdg (kk ls H locs hl hP hS)
        · cases hs
      · cases hs
    · rename_i n qs hcl
      unfold mx_mth at hs
      split at hs
      · rename_i y x rest
        split at hs
        · rename_i hc
          obtain ⟨rfl, rfl, rfl, rfl⟩ := mx_q_nx hs
          obtain ⟨q, hq⟩ := mx_cl_ne hcl
          have hw := (mx_call_ok hcl hq).1
          obtain ⟨em2, hem2⟩ := mx_cx_M (mx_call_ok hcl hq).2
          simp only [mx_cw, hem2, how] at hw
          have hsum := mx_rest (g := g) hc.2
          exact va_mmin (hexec := hx) (hb := hb) (hml := by rw [hml]; exact hl.1.symm) hown (hts _ (hw _ (by simp))) (hts _ (hw _ (by simp))) (hts _ (hw _ (by simp))) (hts _ (hw _ (by simp))) (by omega) (by omega) hRc hRs hdg (kk ls H locs hl hP hS)
        · cases hs
      · cases hs
    · cases hs
  | invokespecial idx =>
    simp only [mx_lenok, beq_iff_eq] at hlen; subst hlen
    simp only [mx_step] at hs
    unfold mx_cI at hs
    split at hs
    · rename_i n qs hcl
      split at hs
      · rename_i a rest
        split at hs
        · rename_i hc
          obtain ⟨rfl, rfl, rfl, rfl⟩ := mx_q_nx hs
          obtain ⟨q, hq⟩ := mx_cl_ne hcl
          have hw := (mx_call_ok hcl hq).1
          obtain ⟨em2, hem2⟩ := mx_cx_M (mx_call_ok hcl hq).2
          simp only [mx_cw, hem2, how] at hw
          have hsum := mx_rest (g := g) hc.2
          exact W.objInit hx hb hown (hts _ (hw _ (by simp))) (hts _ (hw _ (by simp))) (hts _ (hw _ (by simp))) rfl (by rw [hml]; exact hl.1) rfl hdg (by omega) (by show 2 * 0 + _ + 12 ≤ _; omega) (kk ls H locs hl hP hS)
        · cases hs
      · cases hs
    · split at hs
      · split at hs
        · split at hs
          · unfold mx_go at hs; split at hs <;> cases hs
          · split at hs
            · split at hs
              · split at hs
                · unfold mx_go at hs; split at hs <;> cases hs
                · cases hs
              · cases hs
            · cases hs
        · cases hs
      · cases hs
    · cases hs
  | invokevirtual idx =>
    simp only [mx_lenok, beq_iff_eq] at hlen; subst hlen
    simp only [mx_step] at hs
    unfold mx_cV at hs
    split at hs
    · split at hs
      · split at hs
        · split at hs
          · split at hs
            · split at hs
              · unfold mx_go at hs; split at hs <;> cases hs
              · cases hs
            · cases hs
          · cases hs
        · split at hs
          · split at hs
            · unfold mx_go at hs; split at hs <;> cases hs
            · cases hs
          · cases hs
        · cases hs
      · cases hs
    · cases hs
  | ireturn =>
    simp only [mx_lenok, beq_iff_eq] at hlen; subst hlen
    simp only [mx_step] at hs
    split at hs
    · unfold mx_ret at hs
      split at hs
      · split at hs <;> cases hs
      · cases hs
    · cases hs
  | areturn =>
    simp only [mx_lenok, beq_iff_eq] at hlen; subst hlen
    simp only [mx_step] at hs
    split at hs
    · unfold cond at hs
      split at hs <;> cases hs
    · cases hs
  | return_ =>
    simp only [mx_lenok, beq_iff_eq] at hlen; subst hlen
    simp only [mx_step] at hs
    split at hs <;> cases hs
  | _ => first | cases hsel | (simp [mx_grp] at hsel)
set_option maxHeartbeats 4000000 in
theorem mx_one {g : MXG} {X : MXX} {k : Nat} {em : MXM} {n0 z0 d pc len pc' : Nat} {i : Instr} {ll st ll' st' : List Value} {h h' : MXH} {ls : Array Slot} (F : mx_Fr p s m args meth c g X k em n0) (hat : mx_at k pc = some (i, len))
    (hs : mx_step X d k pc i ll st h = some (.inl (pc', ll', st', h'))) (hl : mx_lv g ls em.2.2.1 ll) (hP : va_P (mx_DD g) vwCl (mx_ws g h) H) (hS : va_S (mx_A g) s.heap H locs) (hn : n0 ≤ h.length) (hz : z0 ≤ mx_sz h) (hRc : h'.length - n0 ≤ R.cells) (hRs : mx_sz h' - z0 ≤ R.slots) (hRf : d ≤ R.frames) (hRl : 64 * d ≤ R.locals)
    (kk : mx_KK p l e R s m args below meth c Q g em.2.2.1 n0 z0 pc' ll' st' h') : W p l e R s m args below meth c H locs (h.length - n0) (mx_sz h - z0) Q (F0 m pc ls (st.map (mx_cv g))) := by
  by_cases h0 : mx_grp i = 0
  · exact mx_one_g0 F hat hs hl hP hS hn hz hRc hRs hRf hRl kk h0
  by_cases h1 : mx_grp i = 1
  · exact mx_one_g1 F hat hs hl hP hS hn hz hRc hRs hRf hRl kk h1
  by_cases h2 : mx_grp i = 2
  · exact mx_one_g2 F hat hs hl hP hS hn hz hRc hRs hRf hRl kk h2
  by_cases h3 : mx_grp i = 3
  · exact mx_one_g3 F hat hs hl hP hS hn hz hRc hRs hRf hRl kk h3
  by_cases h4 : mx_grp i = 4
  · exact mx_one_g4 F hat hs hl hP hS hn hz hRc hRs hRf hRl kk h4
  by_cases h5 : mx_grp i = 5
  · exact mx_one_g5 F hat hs hl hP hS hn hz hRc hRs hRf hRl kk h5
  by_cases h6 : mx_grp i = 6
  · exact mx_one_g6 F hat hs hl hP hS hn hz hRc hRs hRf hRl kk h6
  by_cases h7 : mx_grp i = 7
  · exact mx_one_g7 F hat hs hl hP hS hn hz hRc hRs hRf hRl kk h7
  by_cases h8 : mx_grp i = 8
  · exact mx_one_g8 F hat hs hl hP hS hn hz hRc hRs hRf hRl kk h8
  exfalso
  cases i <;> first | (simp [mx_grp] at h0 h1 h2 h3 h4 h5 h6 h7 h8; done) | (simp [mx_step] at hs; done)
end MXO
