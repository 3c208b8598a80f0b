/-! CALLS: the words of a call, each kind of call -/
theorem mx_ct_lt : mx_CT.all (fun c => c.2.all (fun r => r.2.2.2.all (fun q => decide (q.2.1 < 218)))) = true := by decide +kernel
theorem mx_ct_2 : mx_CT.all (fun c => c.2.all (fun r => !(r.2.1 == 2) || (c.1 == 11 && r.2.2.2.all (fun q => match mx_M[q.2.1]? with
  | some e => decide ((r.1, e.1) ∈ mx_nst)
  | none => false)))) = true := by decide +kernel
theorem mx_cl_of_all {P : Nat → Nat × Nat × Nat × List MXQ → Bool} (hall : mx_CT.all (fun c => c.2.all (P c.1)) = true) {k idx : Nat} {r : Nat × Nat × List MXQ} (h : mx_cl k idx = some r) : P (mx_ow k) (idx, r) = true := by
  unfold mx_cl at h
  split at h
  · rename_i t ht
    have h1 := List.all_eq_true.mp hall _ (mx_pk_mem ht)
    exact List.all_eq_true.mp h1 _ (mx_pk_mem h)
  · cases h
theorem mx_cl_lt {k idx kd n : Nat} {qs : List MXQ} (h : mx_cl k idx = some (kd, n, qs)) {q : MXQ} (hq : q ∈ qs) : q.2.1 < 218 := by
  have h1 := mx_cl_of_all (P := fun _ r => r.2.2.2.all (fun q => decide (q.2.1 < 218))) mx_ct_lt h
  have h2 := List.all_eq_true.mp h1 q hq
  exact of_decide_eq_true h2
theorem mx_ct_o : mx_CT.all (fun c => c.2.all (fun r => r.2.2.2.all (fun q => Nat.beq q.2.2.2.1 999 || decide (q.2.2.2.1 < 218)))) = true := by decide +kernel
theorem mx_ow_lt {k idx kd n ci k2 xc ow : Nat} {ps : List Nat} {qs : List MXQ} (h : mx_cl k idx = some (kd, n, qs)) (hq : ((ci, k2, xc, ow, ps) : MXQ) ∈ qs) (h9 : Nat.beq ow 999 = false) : ow < 218 := by
  have h1 := mx_cl_of_all (P := fun _ r => r.2.2.2.all (fun q => Nat.beq q.2.2.2.1 999 || decide (q.2.2.2.1 < 218))) mx_ct_o h
  have h2 := List.all_eq_true.mp h1 _ hq
  simp only [h9, Bool.false_or, decide_eq_true_eq] at h2
  exact h2
theorem mx_M_gen (M : List MXM) {n k : Nat} {P : MXM → Prop} (hall : ∀ e ∈ M.take n, P e) (hk : k < n) {em : MXM} (hM : M[k]? = some em) : P em := hall em (List.mem_of_getElem? (i := k) (by rw [List.getElem?_take, if_pos hk]; exact hM))
theorem mx_em {k : Nat} (hk : k < 218) {em : MXM} (hM : mx_M[k]? = some em) : Cond.code em.1 em.2.1 em.2.2.1 em.2.2.2.1 ∈ mx_T ∧ plainName em.1.cls = true ∧ em.1.cls = mx_cn em.2.2.2.2.1 ∧ em.1.cls ≠ "java/lang/invoke/MethodHandle" ∧ em.1.cls ≠ "java/lang/invoke/VarHandle" ∧ em.2.2.1 ≤ 20 := by
  have h := mx_M_gen mx_M mx_M_ok hk hM
  obtain ⟨h1, h2⟩ := h
  unfold mx_okM at h2
  simp only [Bool.and_eq_true, decide_eq_true_eq] at h2
  exact ⟨mx_T_mem h1 rfl, h2.1.1.1.1.1, h2.1.1.1.1.2, h2.1.1.1.2, h2.1.1.2, h2.1.2⟩
theorem mx_good {ws : List Cond} (h : ∀ w ∈ ws, w ∈ mx_T) : GoodIn mx_T ws := fun w hw => ⟨h w hw, good_of_word (mx_T_sub (h w hw)).2⟩
theorem mx_wk_in {em : MXM} (h : Cond.code em.1 em.2.1 em.2.2.1 em.2.2.2.1 ∈ mx_T) : ∀ w ∈ mx_wk em, w ∈ mx_T := by
  intro w hw
  rcases List.mem_cons.mp hw with rfl | hw
  · exact h
  · exact hw
theorem mx_wk_app {em : MXM} {a : List Cond} (h : Cond.code em.1 em.2.1 em.2.2.1 em.2.2.2.1 ∈ mx_T) (ha : ∀ w ∈ a, w ∈ mx_T) : ∀ w ∈ a ++ mx_wk em, w ∈ mx_T := fun w hw => (List.mem_append.mp hw).elim (ha w) (mx_wk_in h w)
theorem mx_toL (g : MXG) (r : Option Value) (rest : List Value) : (r.map (mx_cv g)).toList ++ rest.map (mx_cv g) = (r.toList ++ rest).map (mx_cv g) := by cases r <;> rfl
theorem mx_stk (g : MXG) {st as rest : List Value} {n : Nat} (h1 : as = (st.take n).reverse) (h2 : rest = st.drop n) : st.map (mx_cv g) = (as.map (mx_cv g)).reverse ++ rest.map (mx_cv g) := by
  subst h1; subst h2
  rw [← List.map_reverse, List.reverse_reverse, ← List.map_append, List.take_append_drop]
theorem mx_stkV (g : MXG) {st rest : List Value} {n : Nat} {v : Value} (h2 : st.drop n = v :: rest) : st.map (mx_cv g) = ((st.take n).reverse.map (mx_cv g)).reverse ++ mx_cv g v :: rest.map (mx_cv g) := by
  have h := mx_stk g (st := st) (n := n) rfl rfl
  rw [h2] at h
  exact h
section MXV
variable {p : Program} {l : Launch} {e : Env} {R : Room} {s : State} {m : MethodId} {args : Array Value} {below : List Frame} {meth : Method} {c : Code} {H : Heap} {locs : List Loc} {cells slots : Nat} {Q : State → Prop}
/-- super.m(..), where the superclass may only inherit it -/
theorem mx_callSU {T : State} (X : Stand p l e R s m args below meth c T locs cells slots) (hexec : p.tables.exec = Jvm.exec) {own xc : String} {index : Nat} {y : MethodName} {bytes : ByteArray} {maxL : Nat} {ret : Option FieldType}
    (hown : s.vm.findClass own = some m.cls) (hlink : (Cond.methodLink own index ⟨xc, y.name, y.desc⟩).before args s = true) (hsame : (Cond.sameMethod xc y.cls y.name y.desc).before args s = true) (hsup : (Cond.superclass own xc).before args s = true) (hup : xc = y.cls ∨ (Cond.superclass xc y.cls).before args s = true)
    (hinst : (Cond.instanceMethod y).before args s = true) (hcode : (Cond.code y bytes maxL ret).before args s = true) (hno : y.name ≠ "<init>")
    {W : Nat} {Pre : Pt → Array Value → Prop} {Post : Pt → Array Value → Option Value → Pt → Prop} (hK : Back l R p e below s args y 3 W Pre Post)
    {b : Addr} {cellB : Cell} {kB : Class} (hcell : T.heap[b]? = some cellB) (hobj : cellB.vm.isStatics = false) (hkB : s.vm.classes[cellB.cls]? = some kB)
    {g : JFrame} (hg : g.method = m) (hsize : g.locals.size = c.maxLocals) {argsL rest : List Value} (hlen : ∀ sig, parseMethodDescriptor y.desc = some sig → argsL.length = sig.parameters.length)
    (hstack : g.stack = argsL.reverse ++ .ref b :: rest) (hW : 2 * g.monitorRoom + (rest.map fun v => v.category).sum ≤ W) (hdg : decode c.code g.pc = .ok (.invokespecial index, 3))
    (hpre : ∀ vm₁, s.WarmedH vm₁ → Pre ⟨T.setVm vm₁, locs, cells, slots⟩ (Value.ref b :: argsL).toArray) :
    ∃ (v : Option Value) (vm₁ : Vm) (B : Pt), s.WarmedH vm₁ ∧ Stand p l e R s m args below meth c B.U B.locs B.cells B.slots ∧ Post ⟨T.setVm vm₁, locs, cells, slots⟩ (Value.ref b :: argsL).toArray v B ∧
      ∀ target, Steps p.tables e below (B.U.setTop { g with pc := g.pc + 3, stack := v.toList ++ rest }) target → Steps p.tables e below (T.setTop g) target := by
  obtain ⟨mk, methM, hnamed, hmethM, hstM, habM⟩ := Cond.instanceMethod_spec hinst
  obtain ⟨methM', cM, hmethM', -, -, -, -, -, -, hsigM⟩ := Cond.code_spec hnamed hcode
  cases hmethM.symm.trans hmethM'
  obtain ⟨ps, dk, kp, hps, hdk, hkp, hsuper, -, -, hnid⟩ := Cond.superclass_spec hown hsup
  have hn : s.methodNamed? ⟨y.cls, y.name, y.desc⟩ = some mk := hnamed
  have hfc := findClass_of_methodNamed hnamed
  have hsub : s.vm.isSubclass ps mk.cls = true := by
    rcases hup with hq | hq
    · have hpm : ps = mk.cls := by rw [hq] at hps; exact Option.some.inj (hps.symm.trans hfc)
      rw [hpm]; simp [Vm.isSubclass, Vm.isSubclassAux]
    · obtain ⟨p2, k2, kp2, q1, q2, q3, q4, -, -, -⟩ := Cond.superclass_spec hps hq
      have hpm : p2 = mk.cls := Option.some.inj (q1.symm.trans hfc)
      subst hpm
      have hpos : 0 < s.vm.classes.size := Nat.lt_of_le_of_lt (Nat.zero_le _) (Array.getElem?_eq_some_iff.mp q2).1
      obtain ⟨N, hN⟩ : ∃ N, s.vm.classes.size = N + 1 := ⟨s.vm.classes.size - 1, by omega⟩
      simp [Vm.isSubclass, Vm.isSubclassAux, hN, q2, q4]
  obtain ⟨vm₁, X₁, hstep₁⟩ := X.invokespecialUp (x := ⟨xc, y.name, y.desc⟩) hexec hown hlink hsame hn hmethM hstM habM hno hdk hnid hps hsuper hsub (a := b) (cell := cellB) hcell
    (fun z h => by rw [h] at hobj; cases hobj) hkB (g := g) hg (argsL := argsL) (rest := rest) (hlen _ hsigM) hstack hdg
  obtain ⟨v, B, X', hpost, hsteps⟩ := hK m meth c ⟨T.setVm vm₁, locs, cells, slots⟩ { g with stack := rest } (.invokespecial index) mk (Value.ref b :: argsL).toArray X₁ hg hsize hdg hW (X₁.named hnamed) (hpre vm₁ X₁.warmed)
  exact ⟨v, vm₁, B, X₁.warmed, X', hpost, fun target h => hstep₁ _ (by rw [doInvoke_state]; exact hsteps.trans h)⟩
theorem mx_runSU {y : MethodName} {bytes cc : ByteArray} {maxL nL mc ms n index : Nat} {ret : Option FieldType} {ws : List Cond} {rm : Room} {Pc : Array Value → State → Prop} {Qc : Array Value → State → Outcome → State → Prop} {free : Addr → Prop} {Ts : List Cond} {own xc C : String} {b : Addr} {As rest : List Value} {g : JFrame}
    (S : CallFix p m c cc nL s args Ts own) (hM : Met l y ws rm Pc Qc mc ms free) (hrc : rm.cells = mc) (hrs : rm.slots = ms) (hfr : rm.frames + 1 ≤ R.frames) (hlo : 8 + (maxL + 11) + rm.locals ≤ R.locals) (hws : ∀ w ∈ ws, ∀ (a' : Array Value) (U : State), s.WarmedH U.vm → w.before a' U = true) (hcw : Cond.code y bytes maxL ret ∈ ws)
    (hl1 : (Cond.methodLink own index ⟨xc, y.name, y.desc⟩).before args s = true) (hl2 : (Cond.sameMethod xc y.cls y.name y.desc).before args s = true) (hl3 : (Cond.superclass own xc).before args s = true) (hup : xc = y.cls ∨ (Cond.superclass xc y.cls).before args s = true) (hl4 : (Cond.instanceMethod y).before args s = true) (hini : (Cond.initialized y.cls).before args s = true) (hcode : (Cond.code y bytes maxL ret).before args s = true) (hno : y.name ≠ "<init>") (hlen : (parseMethodDescriptor y.desc).map (fun d => d.parameters.length) = some n)
    (hp : PreV s H C b Pc As) (hat : ∃ kB : Class, ∀ cell : Cell, s.vm.findClass C = some cell.cls → s.vm.classes[cell.cls]? = some kB)
    (hg : g.method = m) (hn : As.length = n) (hsize : g.locals.size = nL) (hstack : g.stack = As.reverse ++ .ref b :: rest) (hW : 2 * g.monitorRoom + (rest.map fun v => v.category).sum ≤ 8) (hdg : decode cc g.pc = .ok (.invokespecial index, 3)) (hf : cells + mc ≤ R.cells ∧ slots + ms ≤ R.slots) :
    va_Run p l e R s m args below meth c H locs cells slots mc ms g rest (Qc (Value.ref b :: As).toArray) (free) := by
  have hK : Back l R p e below s args y 3 8 (PreOf R mc ms Pc) (PostOf Qc mc ms free) := back_of (bytes := bytes) (maxL := maxL) (ret := ret) hM hp.1 hrc hrs hfr hlo hws hcw (fun a' U hW => word_at hW (Or.inl (by first | rfl | simp [Cond.onTables, Cond.keeps, Cond.steady])) hini)
  obtain ⟨hx, hb, hml, ho, -⟩ := S
  obtain ⟨-, ⟨cellB, hcB, hoB, hclB⟩, hPc⟩ := hp
  obtain ⟨kB, hkB⟩ := hat
  have hkB := hkB cellB hclB
  intro T hT X
  obtain ⟨v, vm₁, ⟨U', l2, c2, s2⟩, hW₁, X', ⟨g', mk, t, L, e1, e2, hq, h1, hL, h2, h3⟩, st⟩ := mx_callSU X hx (bytes := bytes) (maxL := maxL) (ret := ret) ho hl1 hl2 hl3 hup hl4 hcode hno hK (by rw [hT]; exact hcB) hoB hkB hg (hsize.trans hml.symm) (argsL := As) (rest := rest) (fun sig h => by rw [h] at hlen; exact hn.trans (Option.some.inj hlen).symm) hstack hW (by rw [hb]; exact hdg)
    (fun vm₁ hW₁ => ⟨hf.1, hf.2, hPc (T.setVm vm₁) hT hW₁⟩)
  dsimp only [Pt.U, Pt.locs, Pt.cells, Pt.slots] at X' e1 e2 h1 h2 h3 st
  subst h1; subst h2; subst h3
  exact ⟨v, (T.setVm vm₁).calling g' mk (Value.ref b :: As).toArray, t, U', L, hT, X', hL, e1, e2, hq, st⟩
end MXV
