/-! THE CLAIM OUT OF ONE WALK OF THE LAW'S BODY. Your part is whole_start (and what it stands on); all else here is the same for every law, but numbers. -/
def R_law : String := "FallingSlatesLaw"
def lw_P (b : Addr) (xs : List Int32) (args : Array Value) (s : State) : Prop := args = #[.ref b] ∧ s.IntsAt b xs ∧ xs.length ≤ 3072 ∧ (Jvm.Cond.and given_1 narrow_1).before args s = true
def lw_Q (_ : Array Value) (s : State) (o : Outcome) (t : State) : Prop := o = .returned (some (.int 1)) ∧ Framed s o t [] 688612 7036412
def lw_Z (below : List Frame) (a : Array Value) (s : State) : State → Prop := fun t => ∃ o, t.status = .running ∧ Ended t below o ∧ lw_Q a s o t
/-- the law's own end, with 1 on the stack, nothing written that was there before, its room as the claim has it -/
theorem lw_ret {p : Program} {l : Launch} {e : Env} {s : State} {m : MethodId} {below : List Frame} {meth : Method} {c : Code} {b : Nat} (hx : p.tables.exec = Jvm.exec) (hb : c.code = code) (hr : meth.sig.returnType = ret) (hlocks : meth.locks = false) {pc : Nat} {H : Heap} {ls : Array Slot} (hdg : decode code pc = .ok (.ireturn, 1)) : W p l e room_1 s m #[Value.ref b] below meth c H [] 688612 7036412 (lw_Z below #[Value.ref b] s) (F0 m pc ls [.int 1]) := by
  intro T hT X
  obtain ⟨fs, hret, hrun, hended, hW, hframe⟩ := X.leave (v := some (.int 1)) (hlocks := hlocks) (fun h => by rw [hr] at h; cases h)
  have hmeth' : T.vm.method? m = some meth := X.method'
  refine ⟨T.setFrames fs, ?_, .returned (some (.int 1)), hrun, hended, rfl, ⟨_, rfl⟩, hW, hframe⟩
  jvm_step X.here [X.here.top, hx, hb, hdg, hmeth', hr, ret, narrow_b1]
  (try refine ⟨rfl, ?_⟩); (try refine ⟨rfl, ?_⟩)
  first | (intro acts; rw [hret _ acts rfl rfl rfl]) | rw [hret _ _ rfl rfl rfl]
  exact Steps.refl _
/-- what holds at the law's entry: the machine, the code, the tables' words (any of lw_tbl by 'hts w (by decide +kernel)'), the script of L ints xs at the cell b, what the Statement gives of the start (any of its parts by flat_of_before) -/
def lw_At (p : Program) (s : State) (m : MethodId) (meth : Method) (c : Code) (b L : Nat) (xs : Nat → Int32) : Prop :=
  p.tables.exec = Jvm.exec ∧ c.code = code ∧ meth.sig.returnType = ret ∧ c.maxLocals = 4 ∧ s.vm.findClass R_law = some m.cls ∧ (∀ w ∈ lw_tbl, w.before #[Value.ref b] s = true) ∧ va_X b L xs s s.heap ∧ b < s.heap.size ∧ meth.locks = false ∧ (Jvm.Cond.and given_1 narrow_1).before #[Value.ref b] s = true
theorem mx_SB_c : mx_SB.all (fun q => Nat.beq q.1 q.2 || decide (Cond.castable (mx_cn q.1) (mx_cn q.2) ∈ lw_tbl)) = true := by decide +kernel
def mx_selL : List Nat := [0, 1, 2, 4, 6, 8, 9]
def mx_flat : List Cond := flatC (Jvm.Cond.and given_1 narrow_1)
theorem mx_NC_c : mx_selL.all (fun a => mx_selL.all (fun b => mx_sub a b || decide (Cond.not (.castable (mx_cn a) (mx_cn b)) ∈ mx_flat))) = true := by decide +kernel
def mx_f0 (w : Cond) : Prop := w ∈ mx_flat
theorem mx_fl : [Cond.eq (.static "java/lang/String" "COMPACT_STRINGS" "Z") (.int 1), Cond.arrayOf (.static "FallingSlates" "CUTS" "[I") .int, Cond.eq (.length (.static "FallingSlates" "CUTS" "[I")) (.int 5),
  Cond.eq (.elem (.static "FallingSlates" "CUTS" "[I") (.int 0)) (.int 0), Cond.eq (.elem (.static "FallingSlates" "CUTS" "[I") (.int 1)) (.int 10), Cond.eq (.elem (.static "FallingSlates" "CUTS" "[I") (.int 2)) (.int 20), Cond.eq (.elem (.static "FallingSlates" "CUTS" "[I") (.int 3)) (.int 50), Cond.eq (.elem (.static "FallingSlates" "CUTS" "[I") (.int 4)) (.int 100)].all (fun w => decide (w ∈ mx_flat)) = true := by decide +kernel
def mx_tm (i : Nat) : Term := .string "FallingSlates$Text" (if i = 0 then 26 else 28)
def mx_byt : List (List Int32) := [[112, 97, 116, 117], [112, 102, 115, 116]]
theorem mx_strs : (List.range 2).all (fun i => decide (Cond.exactly (mx_tm i) "java/lang/String" ∈ mx_flat) && decide (Cond.eq (.field (mx_tm i) "java/lang/String" "coder" "B") (.int 0) ∈ mx_flat) && decide (Cond.arrayOf (.field (mx_tm i) "java/lang/String" "value" "[B") .byte ∈ mx_flat) && decide (Cond.eq (.length (.field (mx_tm i) "java/lang/String" "value" "[B")) (.int (Int32.ofNat (([4, 4] : List Nat).getD i 0))) ∈ mx_flat) &&
  (List.range 4).all (fun j => decide (Cond.eq (.elem (.field (mx_tm i) "java/lang/String" "value" "[B") (.int (Int32.ofNat j))) (.int ((mx_byt.getD i []).getD j 0)) ∈ mx_flat))) = true := by decide +kernel
theorem mx_strne : Cond.not (Cond.eq (mx_tm 0) (mx_tm 1)) ∈ mx_flat := by decide +kernel
set_option maxHeartbeats 4000000 in
/-- at the law's entry all that the abstract machine wants is there -/
theorem mx_K0 {p : Program} {s : State} {m : MethodId} {meth : Method} {c : Code} {b L : Nat} {xs : Nat → Int32} (C0 : lw_At p s m meth c b L xs) : ∃ g : MXG, g.1 = s.heap.size ∧ g.2.1 1 = b ∧ mx_K g (L, xs) s := by
  obtain ⟨hx, hb, hr, hml, hown, hts, hX, hbl, hlocks, hgv⟩ := C0
  have hfl : ∀ w ∈ mx_flat, w.before #[Value.ref b] s = true := flat_of_before _ hgv
  have hA : ∀ a : Nat, a < s.heap.size → ¬ (fun q : Nat => s.heap.size ≤ q) a := fun a h => Nat.not_le.mpr h
  have hcls : ∀ k : Nat, ∃ (cC : ClassId) (iS : Nat → Nat), ∀ q : vw_C, vwCl[k]? = some q → u_Kn s q.1 q.2.1 q.2.2 cC iS := by
    intro k
    cases hk : vwCl[k]? with
    | none => exact ⟨0, fun _ => 0, fun q hq => by cases hq⟩
    | some q =>
      obtain ⟨C, T, N⟩ := q
      obtain ⟨ty, -, hws, -, -, -⟩ := mx_cls hk
      obtain ⟨hi, -⟩ := mx_cls_new hk
      obtain ⟨cC, iS, hu⟩ := u_known (C := C) (T := T) (N := N) (n := N) hts (fun w hw => (mx_T_sub (hws w hw)).1) (hts _ hi)
      exact ⟨cC, iS, fun q hq => by cases hq; exact hu⟩
  obtain ⟨cI, kI, coI, i1, i2, i3⟩ := Cond.arrayClass_spec (hts (.arrayClass .int) (mx_T_sub mx_T_int).1)
  obtain ⟨cZ, kZ, coZ, z1, z2, z3⟩ := Cond.arrayClass_spec (hts (.arrayClass .boolean) (mx_T_sub mx_T_bool).1)
  have hao : ∀ C : String, Cond.arrayOver (.object C) ∈ lw_tbl → ∃ cA, ArrOfT s cA (.object C) ∧ va_RA s cA (.object C) := by
    intro C hC
    obtain ⟨comp, cA, kA, h1, h2, h3, h4, h5⟩ := Cond.arrayOver_spec (hts _ hC)
    exact ⟨cA, fun N z => ⟨(fun k h => by cases h), kA, h3, comp, h4⟩, kA, comp, h3, h4, h1, h5⟩
  have hao4 : (["FallingSlates$Text", "FallingSlates$Seller", "FallingSlates$Sheet", "FallingSlates$Market"] : List String).all (fun C => decide (Cond.arrayOver (.object C) ∈ lw_tbl)) = true := by decide +kernel
  have hao4 := List.all_eq_true.mp hao4
  obtain ⟨a2, r2, t2⟩ := hao "FallingSlates$Text" (of_decide_eq_true (hao4 _ (by simp)))
  obtain ⟨a3, r3, t3⟩ := hao "FallingSlates$Seller" (of_decide_eq_true (hao4 _ (by simp)))
  obtain ⟨a4, r4, t4⟩ := hao "FallingSlates$Sheet" (of_decide_eq_true (hao4 _ (by simp)))
  obtain ⟨a5, r5, t5⟩ := hao "FallingSlates$Market" (of_decide_eq_true (hao4 _ (by simp)))
  have hfl0 := List.all_eq_true.mp mx_fl
  have hcmp := va_eqi (hfl _ (of_decide_eq_true (hfl0 (Cond.eq (.static "java/lang/String" "COMPACT_STRINGS" "Z") (.int 1)) (by simp))))
  obtain ⟨tc, htc, hTc⟩ := va_Tof (args := #[Value.ref b]) (s := s) (tm := .static "FallingSlates" "CUTS" "[I") (ty := .int) (N := 5) (f := fun j => .int (mx_cuts j)) (A := fun q : Nat => s.heap.size ≤ q) (by decide) (hfl _ (of_decide_eq_true (hfl0 (Cond.arrayOf (.static "FallingSlates" "CUTS" "[I") .int) (by simp)))) (va_eqt (hfl _ (of_decide_eq_true (hfl0 (Cond.eq (.length (.static "FallingSlates" "CUTS" "[I")) (.int 5)) (by simp))))) (by
    intro j hj
    match j, hj with
    | 0, _ => exact va_eqt (hfl _ (of_decide_eq_true (hfl0 (Cond.eq (.elem (.static "FallingSlates" "CUTS" "[I") (.int 0)) (.int 0)) (by simp))))
    | 1, _ => exact va_eqt (hfl _ (of_decide_eq_true (hfl0 (Cond.eq (.elem (.static "FallingSlates" "CUTS" "[I") (.int 1)) (.int 10)) (by simp))))
    | 2, _ => exact va_eqt (hfl _ (of_decide_eq_true (hfl0 (Cond.eq (.elem (.static "FallingSlates" "CUTS" "[I") (.int 2)) (.int 20)) (by simp))))
    | 3, _ => exact va_eqt (hfl _ (of_decide_eq_true (hfl0 (Cond.eq (.elem (.static "FallingSlates" "CUTS" "[I") (.int 3)) (.int 50)) (by simp))))
    | 4, _ => exact va_eqt (hfl _ (of_decide_eq_true (hfl0 (Cond.eq (.elem (.static "FallingSlates" "CUTS" "[I") (.int 4)) (.int 100)) (by simp))))
    | n + 5, hj => omega) hA
  have hstr : ∀ i : Nat, i < 2 → _ := fun i hi => List.all_eq_true.mp mx_strs i (List.mem_range.mpr hi)
  simp only [Bool.and_eq_true, decide_eq_true_eq] at hstr
  obtain ⟨adK, adV, hSt, hev⟩ := vk_Sof (args := #[Value.ref b]) (s := s) (N := 2) (tm := mx_tm) (len := [4, 4]) (byt := mx_byt) (A := fun q : Nat => s.heap.size ≤ q)
    (by intro i hi; match i, hi with | 0, _ => decide | 1, _ => decide | n + 2, h => omega)
    (fun i hi => hfl _ (hstr i hi).1.1.1.1) (fun i hi => hfl _ (hstr i hi).1.1.1.2) (fun i hi => hfl _ (hstr i hi).1.1.2) (fun i hi => hfl _ (hstr i hi).1.2)
    (fun i hi j hj => hfl _ (by
      have h4 : j < 4 := by match i, hi, hj with | 0, _, hj => exact hj | 1, _, hj => exact hj | n + 2, h, _ => omega
      exact of_decide_eq_true (List.all_eq_true.mp (hstr i hi).2 j (List.mem_range.mpr h4))))
    (by
      intro i j hi hj hij
      match i, j, hi, hj, hij with
      | 0, 0, _, _, h => exact absurd rfl h
      | 0, 1, _, _, _ => exact Or.inl (hfl _ mx_strne)
      | 1, 0, _, _, _ => exact Or.inr (hfl _ mx_strne)
      | 1, 1, _, _, h => exact absurd rfl h
      | n + 2, _, h, _, _ => omega
      | 0, n + 2, _, h, _ => omega
      | 1, n + 2, _, h, _ => omega) hA
  have hlays : [Cond.laysStatic "FallingSlates" "CUTS" "[I", Cond.laysStatic "java/lang/String" "COMPACT_STRINGS" "Z", Cond.initialized "FallingSlates", Cond.initialized "java/lang/String", Cond.stringRef "FallingSlates$Text" 26 "patu", Cond.stringRef "FallingSlates$Text" 28 "pfst", Cond.methodLinkNest "FallingSlates" 11 ⟨"FallingSlates$Market", "<init>", "()V"⟩ "FallingSlates", Cond.methodLinkNest "FallingSlates" 67 ⟨"FallingSlates$Sheet", "<init>", "()V"⟩ "FallingSlates"].all (fun w => decide (w ∈ lw_tbl)) = true := by decide +kernel
  have hlays := List.all_eq_true.mp hlays
  have hw : ∀ w, w ∈ ([Cond.laysStatic "FallingSlates" "CUTS" "[I", Cond.laysStatic "java/lang/String" "COMPACT_STRINGS" "Z", Cond.initialized "FallingSlates", Cond.initialized "java/lang/String", Cond.stringRef "FallingSlates$Text" 26 "patu", Cond.stringRef "FallingSlates$Text" 28 "pfst", Cond.methodLinkNest "FallingSlates" 11 ⟨"FallingSlates$Market", "<init>", "()V"⟩ "FallingSlates", Cond.methodLinkNest "FallingSlates" 67 ⟨"FallingSlates$Sheet", "<init>", "()V"⟩ "FallingSlates"] : List Cond) → w.before #[Value.ref b] s = true := fun w hw => hts w (of_decide_eq_true (hlays w hw))
  refine ⟨(s.heap.size, (fun w => match w with | 0 => tc | 1 => b | 2 => adK 0 | 3 => adK 1 | 4 => adV 0 | _ => adV 1), (fun k => match k with | 0 => cI | 1 => cZ | 2 => a2 | 3 => a3 | 4 => a4 | _ => a5), (fun k => (hcls k).choose), (fun k => (hcls k).choose_spec.choose)), rfl, rfl, ?_⟩
  refine ⟨⟨fun c q hq => (hcls c).choose_spec.choose_spec q hq, ?_⟩, ?_, ?_, ?_, ?_, ?_, ?_, ?_, ?_, ?_, ?_, ?_⟩
  · intro k q hq
    match k, hq with
    | 0, hq => cases hq; exact ⟨fun N z => ⟨(fun k h => by cases h), kI, i2, coI, i3⟩, i1⟩
    | 1, hq => cases hq; exact ⟨fun N z => ⟨(fun k h => by cases h), kZ, z2, coZ, z3⟩, z1⟩
    | 2, hq => cases hq; exact ⟨r2, t2⟩
    | 3, hq => cases hq; exact ⟨r3, t3⟩
    | 4, hq => cases hq; exact ⟨r4, t4⟩
    | 5, hq => cases hq; exact ⟨r5, t5⟩
    | n + 6, hq => simp [mx_tys] at hq
  · intro kd ci hc
    have hall : (["FallingSlates$Text", "FallingSlates$Seller", "FallingSlates$Sheet", "FallingSlates$Market"] : List String).contains (mx_cn ci) = true := by
      unfold mx_cmp at hc
      repeat' split at hc
      all_goals first | (cases hc; rfl) | cases hc
    have hm : mx_cn ci ∈ (["FallingSlates$Text", "FallingSlates$Seller", "FallingSlates$Sheet", "FallingSlates$Market"] : List String) := by simpa using hall
    exact va_AO.of (hts _ (of_decide_eq_true (hao4 _ hm)))
  · intro q hq
    unfold mx_nst at hq
    rcases List.mem_cons.mp hq with rfl | hq
    · exact va_Nw.of rfl (hw _ (by simp))
    · rcases List.mem_cons.mp hq with rfl | hq
      · exact va_Nw.of rfl (hw _ (by simp))
      · cases hq
  · intro a b hab hne
    unfold mx_sub at hab
    obtain ⟨q, hq, hqb⟩ := List.any_eq_true.mp hab
    simp only [Bool.and_eq_true] at hqb
    have e1 := Nat.eq_of_beq_eq_true hqb.1
    have e2 := Nat.eq_of_beq_eq_true hqb.2
    have h1 := List.all_eq_true.mp mx_SB_c q hq
    rw [e1, e2] at h1
    simp only [Bool.or_eq_true, decide_eq_true_eq] at h1
    rcases h1 with h1 | h1
    · exact absurd (Nat.eq_of_beq_eq_true h1) hne
    · exact va_Nw.of rfl (hts _ h1)
  · intro a b ha hb2 hab
    have hin : ∀ x : Nat, mx_selr x = true → x ∈ mx_selL := by
      intro x hx0
      unfold mx_selr at hx0
      simp only [Bool.or_eq_true, beq_iff_eq] at hx0
      simp only [mx_selL, List.mem_cons, List.not_mem_nil, or_false]
      omega
    have h1 := List.all_eq_true.mp (List.all_eq_true.mp mx_NC_c a (hin a ha)) b (hin b hb2)
    rw [hab] at h1
    simp only [Bool.false_or, decide_eq_true_eq] at h1
    exact va_Nc.of (hfl _ h1)
  · exact va_Zref (hw _ (by simp)) (hw _ (by simp)) htc hA
  · exact va_Zof (hw _ (by simp)) (hw _ (by simp)) hcmp hA
  · intro w n f hwf
    unfold mx_xi at hwf
    split at hwf
    · rename_i h0
      subst h0
      cases hwf
      exact hTc
    · split at hwf
      · rename_i h0
        subst h0
        cases hwf
        obtain ⟨scr, q1, q2, q3, q4, q5⟩ := hX
        exact ⟨scr, q1, q2, q3, Nat.le_of_eq q4.symm, by rw [q4], q5, hA b hbl⟩
      · cases hwf
  · intro w n f hwf
    unfold mx_xb at hwf
    split at hwf
    · rename_i h0
      subst h0
      cases hwf
      exact (hSt.1 0 (by decide)).2.2.2
    · split at hwf
      · rename_i h0
        subst h0
        cases hwf
        exact (hSt.1 1 (by decide)).2.2.2
      · cases hwf
  · intro w hw23
    rcases hw23 with rfl | rfl
    · exact ⟨(hSt.1 0 (by decide)).1, (hSt.1 0 (by decide)).2.1, (hSt.1 0 (by decide)).2.2.1⟩
    · exact ⟨(hSt.1 1 (by decide)).1, (hSt.1 1 (by decide)).2.1, (hSt.1 1 (by decide)).2.2.1⟩
  · exact vk_R.of (hw _ (by simp)) (hev 0 (by decide))
  · exact vk_R.of (hw _ (by simp)) (hev 1 (by decide))
/-- the law's run on the abstract machine, from nothing -/
def mx_law (X : MXX) : Prop := ∃ (n : Nat) (h' : MXH), mx_run X n 1000 218 0 [.float 1, .double 0, .double 0, .double 0] [] [] = some (some (.int 1), h') ∧ h'.length ≤ 688612 ∧ mx_sz h' ≤ 7036412
theorem mx_me218 : mx_M[218]? = some me218 := rfl
set_option maxHeartbeats 4000000 in
theorem mx_start (hlaw : ∀ X : MXX, X.1 ≤ 3072 → mx_law X) {p : Program} {e : Env} {s : State} {m : MethodId} {below : List Frame} {meth : Method} {c : Code} (l : Launch) {b L : Nat} {xs : Nat → Int32} (hL : L ≤ 3072) (C0 : lw_At p s m meth c b L xs) : W p l e room_1 s m #[Value.ref b] below meth c s.heap [] 0 0 (lw_Z below #[Value.ref b] s) (entryFrame m ([Value.ref b] : List Value).toArray 4) := by
  obtain ⟨g, hg1, hg2, hK⟩ := mx_K0 C0
  obtain ⟨hx, hb, hr, hml, hown, hts, hX, hbl, hlocks, hgv⟩ := id C0
  obtain ⟨n, h', hrun, hc1, hc2⟩ := hlaw (L, xs) hL
  have F : mx_Fr p s m #[Value.ref b] meth c g (L, xs) 218 me218 0 := ⟨mx_me218, hx, hb, hr, hml, hown, fun w hw => hts w (mx_T_sub hw).1, hlocks, fun q => absurd q (by decide), hK, by rw [hg1]; rfl⟩
  have hent := mx_entry (g := g) (as := [.float 1]) (n := 4) (by decide)
  have hcv : ([.float 1] : List Value).map (mx_cv g) = [Value.ref b] := by rw [← hg2]; rfl
  rw [hcv] at hent
  rw [lg_entry_eq]
  have hP0 : va_P (mx_DD g) vwCl (mx_ws g []) s.heap := fun k q h => by simp [mx_ws] at h
  exact mx_sim (L, xs) n hrun F (z0 := 0) (Nat.le_refl _) (Nat.le_refl _) (R := room_1) hc1 hc2 (by show 1000 ≤ 2048; omega) (by show 64 * 1000 ≤ 84000; omega) (fun pc i ls H locs hdg hrr hP1 hS1 => by
    refine va_forget (fun q hq => by rw [← hg1]; exact hS1.2.2 q hq) ?_
    refine W.widen (k := 688612) (n := 7036412) hc1 hc2 ?_
    rcases hrr with ⟨rfl, v, ty, hv, -, -⟩ | ⟨rfl, v, C, hv, hA, -⟩ | ⟨rfl, hv, -⟩
    · exact lw_ret hx hb hr hlocks hdg
    · cases hv; cases hA
    · cases hv) _ _ _ hent hP0 va_S.rf
