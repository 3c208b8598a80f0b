/-! THE SIMULATION, whole -/
def mx_S (X : MXX) (n : Nat) : Prop := ∀ {d k pc : Nat} {ll st : List Value} {h h' : MXH} {r : Option Value}, mx_run X n d k pc ll st h = some (r, h') →
  ∀ {p : Program} {l : Launch} {e : Env} {R : Room} {s : State} {m : MethodId} {args : Array Value} {below : List Frame} {meth : Method} {c : Code} {Q : State → Prop} {g : MXG} {em : MXM} {n0 z0 : Nat}, mx_Fr p s m args meth c g X k em n0 → n0 ≤ h.length → z0 ≤ mx_sz h → h'.length - n0 ≤ R.cells → mx_sz h' - z0 ≤ R.slots → d ≤ R.frames → 64 * d ≤ R.locals →
  (∀ (pc : Nat) (i : Instr) (ls : Array Slot) (H : Heap) (locs : List Loc), decode em.2.1 pc = .ok (i, 1) → mx_rr i r em → va_P (mx_DD g) vwCl (mx_ws g h') H → va_S (mx_A g) s.heap H locs → W p l e R s m args below meth c H locs (h'.length - n0) (mx_sz h' - z0) Q (F0 m pc ls ((r.map (mx_cv g)).toList))) →
  mx_KK p l e R s m args below meth c Q g em.2.2.1 n0 z0 pc ll st h
set_option maxHeartbeats 4000000 in
/-- a method's contract, out of a run of it -/
theorem mx_met {X : MXX} {n : Nat} (IH : mx_S X n) {d k : Nat} {as : List Value} {h h' : MXH} {r : Option Value} (hrun : mx_run X n d k 0 (mx_en as (mx_ml k)) [] h = some (r, h')) {em : MXM} (hM : mx_M[k]? = some em) (hk : k < 218) (has : (mx_sl as).length ≤ mx_ml k) (l : Launch) (g : MXG) :
    Met l em.1 (mx_wk em) (mx_rm d (h'.length - h.length) (mx_sz h' - mx_sz h)) (mx_Pc g X as h) (mx_Qc g r h') (h'.length - h.length) (mx_sz h' - mx_sz h) (mx_A g) := by
  obtain ⟨hcw, hpl, hcls, hn1, hn2, hmx⟩ := mx_em hk hM
  have hmle := mx_ml_eq hM
  rw [hmle] at hrun has
  refine Met.ofW (cc := em.2.1) (maxL := em.2.2.1) (ret := em.2.2.2.1) hpl rfl ?_
  intro p e s m args below meth c s₁ B hml hv
  obtain ⟨rfl, hsz, hP, hK⟩ := hv
  have hts : ∀ w ∈ mx_wk em, w.before _ s = true := atoms_spec (ws := mx_wk em) B.pre
  have hown : s.vm.findClass (mx_cn em.2.2.2.2.1) = some m.cls := by rw [← hcls]; exact findClass_of_methodNamed B.named
  have hnm : meth.name = em.1.name := (name_of_methodNamed B.named B.method).1
  have F : mx_Fr p s m _ meth c g X k em h.length := ⟨hM, B.exec, B.bytes, B.returns, hml, hown, fun w hw => hts w (List.mem_cons_of_mem _ hw), B.notSynchronized, fun q => hnm.trans q, hK, hsz⟩
  have hlk := B.notSynchronized
  rw [lg_entry_eq]
  have hmono := mx_run_mono hrun
  have h0 : ∀ x : Nat, x - x = 0 := Nat.sub_self
  have main := IH hrun (p := p) (l := l) (e := e) (R := (headSpec (mx_wk em) (mx_rm d (h'.length - h.length) (mx_sz h' - mx_sz h))).room) (s := s) (m := m) (args := (as.map (mx_cv g)).toArray) (below := below) (Q := MQ below (mx_Qc g r h') (as.map (mx_cv g)).toArray s (h'.length - h.length) (mx_sz h' - mx_sz h) (mx_A g)) (z0 := mx_sz h) F (Nat.le_refl _) (Nat.le_refl _) (Nat.le_refl _) (Nat.le_refl _) (Nat.le_refl _) (Nat.le_refl _) ?_ _ _ _ (mx_entry has) hP va_S.rf
  · rw [h0, h0] at main
    exact main
  · intro pc i ls H locs hdg hrr hP1 hS1
    have hq : ∀ t : State, t.heap = H → s.WarmedH t.vm → mx_Qc g r h' ((as.map (mx_cv g)).toArray) s (.returned (r.map (mx_cv g))) t := fun t ht _ => ⟨rfl, by rw [ht]; exact hP1, hS1.F ht⟩
    rcases hrr with ⟨rfl, v, ty, rfl, hty, hnv⟩ | ⟨rfl, v, C, rfl, hv, hty⟩ | ⟨rfl, rfl, hty⟩
    · exact W.zret B.exec B.bytes (B.returns.trans hty) hnv hq hS1.2.2 hdg hlk
    · exact W.aret B.exec B.bytes (B.returns.trans hty) (Or.inl ⟨C, rfl⟩) (mx_isA_of hv) hq hS1.2.2 hdg hlk
    · exact W.vret B.exec B.bytes (B.returns.trans hty) hq hS1.2.2 hdg hlk
section MXC
variable {p : Program} {l : Launch} {e : Env} {R : Room} {s : State} {m : MethodId} {args : Array Value} {below : List Frame} {meth : Method} {c : Code} {H : Heap} {locs : List Loc} {Q : State → Prop}
set_option maxHeartbeats 4000000 in
/-- a call, of any kind, over the callee's contract -/
theorem mx_inv {g : MXG} {X : MXX} {k : Nat} {em : MXM} {n0 z0 d pc k' : Nat} {i : Instr} {ll st as rest : List Value} {h h1 : MXH} {r1 : Option Value} {ls : Array Slot} (F : mx_Fr p s m args meth c g X k em n0) (hdg : decode em.2.1 pc = .ok (i, 3)) (hi : mx_isInv i)
    (hs : mx_step X (d + 1) k pc i ll st h = some (.inr (.inr (k', as, rest)))) (hl : mx_lv g ls em.2.2.1 ll) (hP : va_P (mx_DD g) vwCl (mx_ws g h) H) (hS : va_S (mx_A g) s.heap H locs) (hn : n0 ≤ h.length) (hz : z0 ≤ mx_sz h) (hm1 : h.length ≤ h1.length) (hm2 : mx_sz h ≤ mx_sz h1) (hRc : h1.length - n0 ≤ R.cells) (hRs : mx_sz h1 - z0 ≤ R.slots) (hRf : d + 1 ≤ R.frames) (hRl : 64 * (d + 1) ≤ R.locals)
    (hmet : ∀ em' : MXM, mx_M[k']? = some em' → k' < 218 → (mx_sl as).length ≤ mx_ml k' → Met l em'.1 (mx_wk em') (mx_rm d (h1.length - h.length) (mx_sz h1 - mx_sz h)) (mx_Pc g X as h) (mx_Qc g r1 h1) (h1.length - h.length) (mx_sz h1 - mx_sz h) (mx_A g))
    (kk : mx_KK p l e R s m args below meth c Q g em.2.2.1 n0 z0 (pc + 3) ll (r1.toList ++ rest) h1) : W p l e R s m args below meth c H locs (h.length - n0) (mx_sz h - z0) Q (F0 m pc ls (st.map (mx_cv g))) := by
  obtain ⟨hM, hx, hb, hr, hml, hown, hts, hlk, hnm, hK, hs0⟩ := F
  have how := mx_ow_eq hM
  refine mx_size hs0 hn hP hS fun hsz => ?_
  have hgo : ∀ {k2 : Nat} {as2 rest2 : List Value}, mx_go k2 as2 rest2 = some (.inr (.inr (k', as, rest))) → k2 = k' ∧ as2 = as ∧ rest2 = rest ∧ rest.length ≤ 4 ∧ (mx_sl as).length ≤ mx_ml k' := by
    intro k2 as2 rest2 hg
    unfold mx_go at hg
    split at hg
    · rename_i hc
      cases hg
      exact ⟨rfl, rfl, rfl, hc.1, hc.2⟩
    · cases hg
  have hpre : ∀ U : State, U.heap = H → s.WarmedH U.vm → mx_Pc g X as h (as.map (mx_cv g)).toArray U := fun U hU hW => ⟨rfl, by rw [hU]; exact hsz, by rw [hU]; exact hP, mx_K.move hW (fun a ha hna => by rw [hU]; exact hS.2.1 a ha hna) hK⟩
  have hfin : ∀ (a : Array Value), va_Run p l e R s m args below meth c H locs (h.length - n0) (mx_sz h - z0) (h1.length - h.length) (mx_sz h1 - mx_sz h) (F0 m pc ls (st.map (mx_cv g))) (rest.map (mx_cv g)) (mx_Qc g r1 h1 a) (mx_A g) → W p l e R s m args below meth c H locs (h.length - n0) (mx_sz h - z0) Q (F0 m pc ls (st.map (mx_cv g))) := by
    intro a hrun
    refine mx_called hrun hS (fun H1 locs1 hP1 hS1 => ?_)
    have k1 := kk ls H1 locs1 hl hP1 hS1
    rw [mx_toL, show h.length - n0 + (h1.length - h.length) = h1.length - n0 by omega, show mx_sz h - z0 + (mx_sz h1 - mx_sz h) = mx_sz h1 - z0 by omega]
    exact k1
  have hf : h.length - n0 + (h1.length - h.length) ≤ R.cells ∧ mx_sz h - z0 + (mx_sz h1 - mx_sz h) ≤ R.slots := ⟨by omega, by omega⟩
  have hroom : rest.length ≤ 4 → 2 * (F0 m pc ls (st.map (mx_cv g))).monitorRoom + ((rest.map (mx_cv g)).map fun v => v.category).sum ≤ 8 := fun hc => by
    have := mx_rest (g := g) hc
    show 2 * 0 + _ ≤ 8
    omega
  rcases hi with ⟨idx, rfl⟩ | ⟨idx, rfl⟩ | ⟨idx, rfl⟩
  · simp only [mx_step] at hs
    unfold mx_cS at hs
    split at hs
    · rename_i n c0 k2 q3 qt hcl
      split at hs
      · rename_i hnl
        obtain ⟨rfl, rfl, rfl, hc4, hsl⟩ := hgo hs
        have hq : ((c0, k2, q3) : MXQ) ∈ ((c0, k2, q3) : MXQ) :: qt := List.mem_cons_self
        obtain ⟨hw, hcx⟩ := mx_call_ok hcl hq
        have hlt := mx_cl_lt hcl hq
        obtain ⟨em', hM'⟩ := mx_cx_M hcx
        have hM' : mx_M[k2]? = some em' := hM'
        obtain ⟨hcw, hpl, hcls, hn1, hn2, hmx⟩ := mx_em hlt hM'
        unfold mx_cx at hcx
        simp only [hM', Bool.and_eq_true, Bool.or_eq_true, decide_eq_true_eq] at hcx
        have hpar : (parseMethodDescriptor em'.1.desc).map (fun d => d.parameters.length) = some n := by
          have := hcx.1; simpa using this
        simp only [mx_cw, hM', how] at hw
        have hrm : (mx_rm d (h1.length - h.length) (mx_sz h1 - mx_sz h)).frames + 1 ≤ R.frames ∧ 8 + (em'.2.2.1 + 11) + (mx_rm d (h1.length - h.length) (mx_sz h1 - mx_sz h)).locals ≤ R.locals := ⟨hRf, by show 8 + (em'.2.2.1 + 11) + 64 * d ≤ R.locals; omega⟩
        have cw := va_cwS (R := R) (s := s) (args := args) (own := mx_cn em.2.2.2.2.1) (index := idx) (y := em'.1) (bytes := em'.2.1) (maxL := em'.2.2.1) (ret := em'.2.2.2.1) (ws := mx_wk em') (mc := h1.length - h.length) (ms := mx_sz h1 - mx_sz h) n hts (mx_good (mx_wk_app hcw hw)) rfl rfl rfl ⟨hn1, hn2, hpar⟩ hrm
        exact hfin _ (va_runS (As := ((st.take n).reverse).map (mx_cv g)) ⟨hx, hb, hml, hown, hts⟩ (hmet em' hM' hlt hsl) cw ⟨mx_Pc_blind g X _ h, hpre⟩ rfl (by simp; omega) hl.1 (mx_stk g rfl rfl) (hroom hc4) hdg hf)
      · cases hs
    · unfold mx_copy at hs
      repeat' split at hs
      all_goals first | (cases hs; done) | exact (mx_nx_nc hs).elim
    · unfold mx_mth at hs
      repeat' split at hs
      all_goals first | (cases hs; done) | exact (mx_nx_nc hs).elim
    · unfold mx_mth at hs
      repeat' split at hs
      all_goals first | (cases hs; done) | exact (mx_nx_nc hs).elim
    · cases hs
  · simp only [mx_step] at hs
    unfold mx_cI at hs
    split at hs
    · repeat' split at hs
      all_goals first | (cases hs; done) | exact (mx_nx_nc hs).elim
    · rename_i kd n c0 k2 q3 qt hno6 hcl
      split at hs
      · rename_i hnl
        split at hs
        · rename_i b rest2 hdr
          have hq : ((c0, k2, q3) : MXQ) ∈ ((c0, k2, q3) : MXQ) :: qt := List.mem_cons_self
          obtain ⟨hw, hcx⟩ := mx_call_ok hcl hq
          have hlt := mx_cl_lt hcl hq
          obtain ⟨em', hM'⟩ := mx_cx_M hcx
          have hM' : mx_M[k2]? = some em' := hM'
          obtain ⟨hcw, hpl, hcls, hn1, hn2, hmx⟩ := mx_em hlt hM'
          have hrm : (mx_rm d (h1.length - h.length) (mx_sz h1 - mx_sz h)).frames + 1 ≤ R.frames ∧ 8 + (em'.2.2.1 + 11) + (mx_rm d (h1.length - h.length) (mx_sz h1 - mx_sz h)).locals ≤ R.locals := ⟨hRf, by show 8 + (em'.2.2.1 + 11) + 64 * d ≤ R.locals; omega⟩
          split at hs
          · rename_i hkd
            obtain ⟨rfl, rfl, rfl, hc4, hsl⟩ := hgo hs
            unfold mx_cx at hcx
            rcases hkd with rfl | rfl
            · simp only [hM', Bool.and_eq_true, Bool.or_eq_true, decide_eq_true_eq] at hcx
              have hpar : (parseMethodDescriptor em'.1.desc).map (fun d => d.parameters.length) = some n := by
                have := hcx.1; simpa using this
              simp only [mx_cw, hM', how] at hw
              obtain ⟨-, hin1, hin2⟩ := hcx
              have hm := hmet em' hM' hlt hsl
              have hcode : Cond.code em'.1 em'.2.1 em'.2.2.1 none ∈ mx_T := by rw [← hin2]; exact hcw
              have hww : mx_wk em' = Cond.code em'.1 em'.2.1 em'.2.2.1 none :: mx_T := by unfold mx_wk; rw [hin2]
              have cw := cwI (R := R) (s := s) (args := args) (own := mx_cn em.2.2.2.2.1) (index := idx) (y := em'.1) (bytes := em'.2.1) (maxL := em'.2.2.1) (ws := mx_wk em') (mc := h1.length - h.length) (ms := mx_sz h1 - mx_sz h) (rm := mx_rm d (h1.length - h.length) (mx_sz h1 - mx_sz h)) n hts (mx_good (mx_wk_in hcw)) hww rfl rfl (hts _ (hw _ (by simp))) (hts _ (hw _ (by simp))) (hts _ (hw _ (by simp))) hin1 ⟨hn1, hn2, hpar⟩ hrm
              exact hfin _ (va_runI (b := g.1 + b) (As := ((st.take n).reverse).map (mx_cv g)) ⟨hx, hb, hml, hown, hts⟩ hm cw ⟨mx_Pc_blind g X _ h, hpre⟩ rfl (by simp; omega) hl.1 (mx_stkV g hdr) (hroom hc4) hdg hf)
            · simp only [hM', Bool.and_eq_true, Bool.or_eq_true, decide_eq_true_eq] at hcx
              have hpar : (parseMethodDescriptor em'.1.desc).map (fun d => d.parameters.length) = some n := by
                have := hcx.1; simpa using this
              simp only [mx_cw, hM', how] at hw
              obtain ⟨-, hin1, hin2⟩ := hcx
              have hm := hmet em' hM' hlt hsl
              have hww : mx_wk em' = Cond.code em'.1 em'.2.1 em'.2.2.1 none :: mx_T := by unfold mx_wk; rw [hin2]
              have h2 := mx_cl_of_all (P := fun o r => !(r.2.1 == 2) || (o == 11 && r.2.2.2.all (fun q => match mx_M[q.2.1]? with
                | some e => decide ((r.1, e.1) ∈ mx_nst)
                | none => false))) mx_ct_2 hcl
              simp only [beq_self_eq_true, Bool.not_true, Bool.false_or, Bool.and_eq_true, beq_iff_eq, List.all_cons, hM', decide_eq_true_eq] at h2
              have hown2 : s.vm.findClass "FallingSlates" = some m.cls := by
                have h3 := h2.1
                rw [how] at h3
                rw [h3] at hown
                exact hown
              have hnst := hK.2.2.1 _ h2.2.1
              have cw := va_cnB (R := R) (s := s) (args := args) (own := "FallingSlates") (host := "FallingSlates") (index := idx) (y := em'.1) (bytes := em'.2.1) (maxL := em'.2.2.1) (ret := none) (ws := mx_wk em') (mc := h1.length - h.length) (ms := mx_sz h1 - mx_sz h) (rm := mx_rm d (h1.length - h.length) (mx_sz h1 - mx_sz h)) n hts (mx_good (mx_wk_in hcw)) hww rfl rfl hnst (hts _ (hw _ (by simp))) ⟨hn1, hn2, hpar⟩ hrm
              exact hfin _ (va_runIN (b := g.1 + b) (As := ((st.take n).reverse).map (mx_cv g)) ⟨hx, hb, hml, hown2, hts⟩ hm ⟨cw, hin1, hts _ (hw _ (by simp))⟩ ⟨mx_Pc_blind g X _ h, hpre⟩ rfl (by simp; omega) hl.1 (mx_stkV g hdr) (hroom hc4) hdg hf)
          · split at hs
            · rename_i hk3
              subst hk3
              split at hs
              · rename_i ci fs hbc
                split at hs
                · rename_i hci
                  obtain ⟨rfl, rfl, rfl, hc4, hsl⟩ := hgo hs
                  obtain ⟨xc, ow, ps⟩ := q3
                  unfold mx_cx at hcx
                  simp only [hM', Bool.and_eq_true, Bool.or_eq_true, decide_eq_true_eq] at hcx
                  have hpar : (parseMethodDescriptor em'.1.desc).map (fun d => d.parameters.length) = some n := by
                    have := hcx.1; simpa using this
                  obtain ⟨-, hin1, hin2⟩ := hcx
                  simp only [mx_cw, hM', how] at hw
                  have hm := hmet em' hM' hlt hsl
                  obtain ⟨C, T, N, hcl2⟩ := mx_cl_of hci
                  have hrec := va_recv hK.1 hP hcl2 (mx_ws_at hbc)
                  have hup : mx_cn xc = em'.1.cls ∨ (Cond.superclass (mx_cn xc) em'.1.cls).before args s = true := by
                    cases h9 : Nat.beq ow 999 with
                    | true =>
                      rw [h9] at hin2
                      left
                      simpa using hin2
                    | false =>
                      right
                      exact hts _ (hw _ (by simp [h9]))
                  have hkb : ∃ kB : Class, ∀ cell : Cell, s.vm.findClass C = some cell.cls → s.vm.classes[cell.cls]? = some kB := by
                    obtain ⟨hf1, kq, hq1, -⟩ := (hK.1.1 ci _ hcl2).2
                    exact ⟨kq, fun cell hc => by rw [Option.some.inj (hc.symm.trans hf1)]; exact hq1⟩
                  exact hfin _ (mx_runSU (C := C) (bytes := em'.2.1) (maxL := em'.2.2.1) (ret := em'.2.2.2.1) (b := g.1 + b) (As := ((st.take n).reverse).map (mx_cv g)) ⟨hx, hb, hml, hown, hts⟩ hm rfl rfl hrm.1 hrm.2 (pay_in hts (mx_good (mx_wk_in hcw))) List.mem_cons_self (hts _ (hw _ (by simp))) (hts _ (hw _ (by simp))) (hts _ (hw _ (by simp))) hup (hts _ (hw _ (by simp))) (hts _ (hw _ (by simp))) (hts _ hcw) hin1 hpar ⟨mx_Pc_blind g X _ h, hrec, hpre⟩ hkb rfl (by simp; omega) hl.1 (mx_stkV g hdr) (hroom hc4) hdg hf)
                · cases hs
              · cases hs
            · cases hs
        · cases hs
      · cases hs
    · cases hs
  · simp only [mx_step] at hs
    unfold mx_cV at hs
    split at hs
    · rename_i n rows hcl
      split at hs
      · rename_i hnl
        have virt : ∀ (C : String) (ci b : Nat) (q : Nat × Nat × Nat × List Nat) (rest2 : List Value) (rv : Value), mx_pk rows ci = some q → mx_cn ci = C → mx_cv g rv = .ref b → st.drop n = rv :: rest2 → mx_go q.1 (rv :: (st.take n).reverse) rest2 = some (.inr (.inr (k', as, rest))) → (∃ cell : Cell, H[b]? = some cell ∧ cell.vm.isStatics = false ∧ s.vm.findClass C = some cell.cls) → W p l e R s m args below meth c H locs (h.length - n0) (mx_sz h - z0) Q (F0 m pc ls (st.map (mx_cv g))) := by
          intro C ci b q rest2 rv hpk hC hrv hdr hg hrec
          subst hC
          obtain ⟨k2, xc, ow, ps⟩ := q
          obtain ⟨rfl, rfl, rfl, hc4, hsl⟩ := hgo hg
          have hq : ((ci, k2, xc, ow, ps) : MXQ) ∈ rows := mx_pk_mem hpk
          obtain ⟨hw, hcx⟩ := mx_call_ok hcl hq
          have hlt := mx_cl_lt hcl hq
          obtain ⟨em', hM'⟩ := mx_cx_M hcx
          have hM' : mx_M[k2]? = some em' := hM'
          obtain ⟨hcw, hpl, hcls, hn1, hn2, hmx⟩ := mx_em hlt hM'
          have hrm : (mx_rm d (h1.length - h.length) (mx_sz h1 - mx_sz h)).frames + 1 ≤ R.frames ∧ 8 + (em'.2.2.1 + 11) + (mx_rm d (h1.length - h.length) (mx_sz h1 - mx_sz h)).locals ≤ R.locals := ⟨hRf, by show 8 + (em'.2.2.1 + 11) + 64 * d ≤ R.locals; omega⟩
          unfold mx_cx at hcx
          simp only [hM', Bool.and_eq_true, Bool.or_eq_true, decide_eq_true_eq] at hcx
          have hpar : (parseMethodDescriptor em'.1.desc).map (fun d => d.parameters.length) = some n := by
            have := hcx.1; simpa using this
          replace hcx := hcx.2
          simp only [mx_cw, hM', how] at hw
          have hm := hmet em' hM' hlt hsl
          have hstk := mx_stkV g hdr
          rw [hrv] at hstk
          have hpre2 : ∀ U : State, U.heap = H → s.WarmedH U.vm → mx_Pc g X (rv :: (st.take n).reverse) h (Value.ref b :: ((st.take n).reverse).map (mx_cv g)).toArray U := by
            intro U hU hW
            have := hpre U hU hW
            rw [List.map_cons, hrv] at this
            exact this
          cases h9 : Nat.beq ow 999 with
          | true =>
            simp only [h9, cond_true, decide_eq_true_eq] at hcx hw
            have cw := cwV (R := R) (s := s) (args := args) (own := mx_cn em.2.2.2.2.1) (C := mx_cn ci) (index := idx) (y := em'.1) (bytes := em'.2.1) (maxL := em'.2.2.1) (ret := em'.2.2.2.1) (ws := mx_wk em') (mc := h1.length - h.length) (ms := mx_sz h1 - mx_sz h) (rm := mx_rm d (h1.length - h.length) (mx_sz h1 - mx_sz h)) n hts (mx_good (mx_wk_app hcw hw)) rfl rfl rfl ⟨hcx, hn1, hn2, hpar⟩ hrm
            exact hfin _ (va_runV (b := b) (As := ((st.take n).reverse).map (mx_cv g)) ⟨hx, hb, hml, hown, hts⟩ hm cw ⟨mx_Pc_blind g X _ h, hrec, hpre2⟩ rfl (by simp; omega) hl.1 hstk (hroom hc4) hdg hf)
          | false =>
            simp only [h9, cond_false] at hcx hw
            cases hMo : mx_M[ow]? with
            | none => rw [hMo] at hcx; cases hcx
            | some eo =>
              simp only [hMo, Bool.and_eq_true, decide_eq_true_eq] at hcx hw
              have howlt : ow < 218 := mx_ow_lt hcl hq h9
              obtain ⟨hcwo, -, -, hno1, hno2, -⟩ := mx_em howlt hMo
              have hyo : eo.1 = ⟨eo.1.cls, em'.1.name, em'.1.desc⟩ := by rw [← hcx.1, ← hcx.2]
              have hw2 : ∀ w ∈ va_wsO (mx_cn em.2.2.2.2.1) idx (mx_cn ci) eo.1.cls ⟨mx_cn xc, em'.1.name, em'.1.desc⟩ em'.1 (mx_wk em'), w ∈ mx_T := by
                unfold va_wsO
                refine mx_wk_app hcw (fun w hw0 => hw w ?_)
                rw [hyo]
                exact hw0
              have cw := va_cwO (R := R) (s := s) (args := args) (own := mx_cn em.2.2.2.2.1) (C := mx_cn ci) (owner := eo.1.cls) (index := idx) (x := ⟨mx_cn xc, em'.1.name, em'.1.desc⟩) (y := em'.1) (bytes := em'.2.1) (maxL := em'.2.2.1) (ret := em'.2.2.2.1) (ws := mx_wk em') (mc := h1.length - h.length) (ms := mx_sz h1 - mx_sz h) (rm := mx_rm d (h1.length - h.length) (mx_sz h1 - mx_sz h)) n hts (mx_good hw2) rfl rfl rfl (b0 := eo.2.1) (m0 := eo.2.2.1) (r0 := eo.2.2.2.1) (by show Cond.code ⟨eo.1.cls, em'.1.name, em'.1.desc⟩ _ _ _ ∈ mx_T; rw [← hyo]; exact hcwo) ⟨hno1, hno2, hpar⟩ hrm
              exact hfin _ (va_runU (b := b) (As := ((st.take n).reverse).map (mx_cv g)) ⟨hx, hb, hml, hown, hts⟩ hm cw ⟨mx_Pc_blind g X _ h, hrec, hpre2⟩ rfl (by simp; omega) hl.1 hstk (hroom hc4) hdg hf)
        split at hs
        · rename_i b rest2 hdr
          split at hs
          · rename_i ci fs hbc
            split at hs
            · rename_i k2 q hpk
              split at hs
              · rename_i hci
                obtain ⟨C, T, N, hcl2⟩ := mx_cl_of hci
                obtain ⟨ty, -, -, -, -, hC⟩ := mx_cls hcl2
                exact virt C ci (g.1 + b) _ rest2 (.ref b) hpk hC.symm rfl hdr hs (va_recv hK.1 hP hcl2 (mx_ws_at hbc))
              · cases hs
            · cases hs
          · cases hs
        · rename_i w rest2 hdr
          split at hs
          · rename_i hw23
            split at hs
            · rename_i k2 q hpk
              obtain ⟨cell, o1, o2, o3, -⟩ := (hK.2.2.2.2.2.2.2.2.2.1 w hw23).1.kept hS.2.1
              exact virt "java/lang/String" 15 (g.2.1 w.toNat) _ rest2 (.float w) hpk rfl rfl hdr hs ⟨cell, o1, o2, o3⟩
            · cases hs
          · cases hs
        · cases hs
      · cases hs
    · cases hs
end MXC
theorem mx_sim (X : MXX) (n : Nat) : mx_S X n := by
  induction n with
  | zero =>
    unfold mx_S
    intro d k pc ll st h h' r hr
    cases hr
  | succ n IH =>
    unfold mx_S
    intro d k pc ll st h h' r hr p l e R s m args below meth c Q g em n0 z0 F hn hz hRc hRs hRf hRl hQ ls H locs hl hP hS
    unfold mx_run at hr
    split at hr
    · cases hr
    · rename_i i len hat
      obtain ⟨em', hem, hdg, hmem⟩ := mx_at_mem hat
      cases F.1.symm.trans hem
      have hlen := mx_len_at F.1 hmem
      split at hr
      · cases hr
      · rename_i pc' l' st' h1 hs
        have hm := mx_mono hs
        have hm2 := mx_run_mono hr
        exact mx_one F hat hs hl hP hS hn hz (by omega) (by omega) hRf hRl (IH hr F (Nat.le_trans hn hm.1) (Nat.le_trans hz hm.2) hRc hRs hRf hRl hQ)
      · rename_i r0 hs
        cases hr
        obtain ⟨hrr, rfl⟩ := mx_q_ret F.1 hs
        have h1 : len = 1 := by
          rcases hrr with ⟨rfl, -⟩ | ⟨rfl, -⟩ | ⟨rfl, -⟩ <;> simpa [mx_lenok] using hlen
        subst h1
        have := hQ pc i ls H locs hdg hrr hP hS
        rw [show (r.map (mx_cv g)).toList = r.toList.map (mx_cv g) by cases r <;> rfl] at this
        exact this
      · rename_i k' as rest hs
        split at hr
        · cases hr
        · rename_i d'
          split at hr
          · cases hr
          · rename_i r1 h1 hr1
            have hi := mx_q_inv hs
            have h3 : len = 3 := by
              rcases hi with ⟨_, rfl⟩ | ⟨_, rfl⟩ | ⟨_, rfl⟩ <;> simpa [mx_lenok] using hlen
            subst h3
            have hm := mx_run_mono hr1
            have hm2 := mx_run_mono hr
            exact mx_inv F hdg hi hs hl hP hS hn hz hm.1 hm.2 (by omega) (by omega) hRf hRl (fun em' hM' hlt hsl => mx_met IH hr1 hM' hlt hsl l g) (IH hr F (Nat.le_trans hn hm.1) (Nat.le_trans hz hm.2) hRc hRs hRf hRl hQ)
