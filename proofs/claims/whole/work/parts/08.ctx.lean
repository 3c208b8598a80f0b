/-! what stays true of the machine while the law runs: classes, rows of references, statics, texts -/
def mx_nst : List (Nat × MethodName) := [(11, ⟨"FallingSlates$Market", "<init>", "()V"⟩), (67, ⟨"FallingSlates$Sheet", "<init>", "()V"⟩)]
def mx_K (g : MXG) (X : MXX) (U : State) : Prop :=
  va_K (mx_DD g) vwCl (mx_tys g) U ∧
  (∀ kd ci : Nat, mx_cmp kd = some ci → va_AO (mx_cn ci) U) ∧
  (∀ q ∈ mx_nst, va_Nw (.methodLinkNest "FallingSlates" q.1 q.2 "FallingSlates") U) ∧
  (∀ a b : Nat, mx_sub a b = true → a ≠ b → va_Nw (.castable (mx_cn a) (mx_cn b)) U) ∧
  (∀ a b : Nat, mx_selr a = true → mx_selr b = true → mx_sub a b = false → va_Nc (mx_cn a) (mx_cn b) U) ∧
  va_Z "FallingSlates" "CUTS" "[I" (.ref (g.2.1 0)) (mx_A g) U U.heap ∧
  va_Z "java/lang/String" "COMPACT_STRINGS" "Z" (.int 1) (mx_A g) U U.heap ∧
  (∀ (w : UInt32) (n : Nat) (f : Nat → Int32), mx_xi X w = some (n, f) → va_T .int (g.2.1 w.toNat) n (fun j => .int (f j)) (mx_A g) U U.heap) ∧
  (∀ (w : UInt32) (n : Nat) (f : Nat → Int32), mx_xb w = some (n, f) → va_T .byte (g.2.1 w.toNat) n (fun j => .int (f j)) (mx_A g) U U.heap) ∧
  (∀ w : UInt32, w = 2 ∨ w = 3 → va_O "java/lang/String" (g.2.1 w.toNat) (mx_A g) U U.heap ∧ va_OF "java/lang/String" "coder" "B" (.int 0) (g.2.1 w.toNat) (mx_A g) U U.heap ∧ va_OF "java/lang/String" "value" "[B" (.ref (g.2.1 (w + 2).toNat)) (g.2.1 w.toNat) (mx_A g) U U.heap) ∧
  vk_R "FallingSlates$Text" 26 "patu" (g.2.1 2) U ∧ vk_R "FallingSlates$Text" 28 "pfst" (g.2.1 3) U
theorem mx_K.move {g : MXG} {X : MXX} {s U : State} (hW : s.WarmedH U.vm) (hq : ∀ a : Nat, a < s.heap.size → ¬ mx_A g a → U.heap[a]? = s.heap[a]?) (h : mx_K g X s) : mx_K g X U := by
  obtain ⟨h1, h2, h3, h4, h5, h6, h7, h8, h9, h10, h11, h12⟩ := h
  have hv := hW.alike
  exact ⟨va_K.moved hv h1, fun kd ci hc => va_AO.moved hv (h2 kd ci hc), fun q hq => va_Nw.warmM hW (h3 q hq), fun a b i1 i2 => va_Nw.warmC hW (h4 a b i1 i2), fun a b i1 i2 i3 => va_Nc.moved hv (h5 a b i1 i2 i3),
    (va_Z.moved hv h6).kept hq, (va_Z.moved hv h7).kept hq, fun w n f hw => (va_T.moved hv (h8 w n f hw)).kept hq, fun w n f hw => (va_T.moved hv (h9 w n f hw)).kept hq,
    fun w hw => ⟨(va_O.moved hv (h10 w hw).1).kept hq, (va_OF.moved hv (h10 w hw).2.1).kept hq, (va_OF.moved hv (h10 w hw).2.2).kept hq⟩, vk_R.warm hW h11, vk_R.warm hW h12⟩
/-- a method's start, its end -/
def mx_Pc (g : MXG) (X : MXX) (as : List Value) (h : MXH) : Array Value → State → Prop := fun v U => v = (as.map (mx_cv g)).toArray ∧ U.heap.size = g.1 + h.length ∧ va_P (mx_DD g) vwCl (mx_ws g h) U.heap ∧ mx_K g X U
def mx_Qc (g : MXG) (r : Option Value) (h' : MXH) : Array Value → State → Outcome → State → Prop := fun _ st oc t => oc = .returned (r.map (mx_cv g)) ∧ va_P (mx_DD g) vwCl (mx_ws g h') t.heap ∧ va_F (mx_A g) st t
theorem mx_Pc_blind (g : MXG) (X : MXX) (as : List Value) (h : MXH) : FrameBlind (mx_Pc g X as h) := by
  intro a U fr mk hP
  obtain ⟨h1, h2, h3, h4⟩ := hP
  exact ⟨h1, h2, h3, mx_K.move (s := U) (U := U.calling fr mk a) (State.WarmedH.refl U) (fun _ _ _ => rfl) h4⟩
def mx_rm (d mc ms : Nat) : Room := { frames := d, cells := mc, slots := ms, locals := 64 * d }
/-- a method's words: its own code, then those of the tables that last -/
def mx_wk (e : MXM) : List Cond := .code e.1 e.2.1 e.2.2.1 e.2.2.2.1 :: mx_T
/-- where a frame of method e stands -/
def mx_Fr (p : Program) (s : State) (m : MethodId) (args : Array Value) (meth : Method) (c : Code) (g : MXG) (X : MXX) (k : Nat) (e : MXM) (n0 : Nat) : Prop :=
  mx_M[k]? = some e ∧ p.tables.exec = Jvm.exec ∧ c.code = e.2.1 ∧ meth.sig.returnType = e.2.2.2.1 ∧ c.maxLocals = e.2.2.1 ∧ s.vm.findClass (mx_cn e.2.2.2.2.1) = some m.cls ∧ (∀ w ∈ mx_T, w.before args s = true) ∧ meth.locks = false ∧ (e.1.name = "<init>" → meth.name = "<init>") ∧ mx_K g X s ∧ s.heap.size = g.1 + n0
section MXS
variable {p : Program} {l : Launch} {e : Env} {R : Room} {s : State} {m : MethodId} {args : Array Value} {below : List Frame} {meth : Method} {c : Code} {H : Heap} {locs : List Loc} {cells slots : Nat} {Q : State → Prop}
/-- how large the heap is, where its cells are counted -/
theorem mx_size {g : MXG} {h : MXH} {n0 : Nat} {f : JFrame} (hs0 : s.heap.size = g.1 + n0) (hn : n0 ≤ h.length) (hP : va_P (mx_DD g) vwCl (mx_ws g h) H) (hS : va_S (mx_A g) s.heap H locs)
    (kk : H.size = g.1 + h.length → W p l e R s m args below meth c H locs (h.length - n0) slots Q f) : W p l e R s m args below meth c H locs (h.length - n0) slots Q f := by
  intro T hT X
  have h1 := X.heapSize
  rw [hT] at h1
  refine kk ?_ T hT X
  have h2 := hS.1
  by_cases hz : h.length = n0
  · omega
  · have hl : h.length - 1 < h.length := by omega
    have h3 := (hP (h.length - 1) _ (mx_ws_at (g := g) (List.getElem?_eq_getElem hl))).lt
    have h3 : g.1 + (h.length - 1) < H.size := h3
    omega
/-- behind a call: the machine stands where the abstract one does -/
theorem mx_called {g : MXG} {r : Option Value} {h' : MXH} {mc ms pc : Nat} {ls : Array Slot} {st0 rest : List Value} {a : Array Value}
    (hr : va_Run p l e R s m args below meth c H locs cells slots mc ms (F0 m pc ls st0) rest (mx_Qc g r h' a) (mx_A g)) (hS : va_S (mx_A g) s.heap H locs)
    (kk : ∀ (H1 : Heap) (locs1 : List Loc), va_P (mx_DD g) vwCl (mx_ws g h') H1 → va_S (mx_A g) s.heap H1 locs1 → W p l e R s m args below meth c H1 locs1 (cells + mc) (slots + ms) Q (F0 m (pc + 3) ls ((r.map (mx_cv g)).toList ++ rest))) : W p l e R s m args below meth c H locs cells slots Q (F0 m pc ls st0) := by
  intro T hT X
  obtain ⟨v, st₀, t, T', L, h0, X', hL, e1, e2, ⟨hv, hp, hz, hk⟩, st⟩ := hr T hT X
  cases hv
  rw [h0] at hz hk
  obtain ⟨t2, a1, b1⟩ := kk T'.heap (locs ++ L) (by rw [e1]; exact hp) ⟨Nat.le_trans hS.1 (by rw [e1]; exact hz), fun q h1 h2 => by rw [e1, hk q (Nat.lt_of_lt_of_le h1 hS.1) h2]; exact hS.2.1 q h1 h2, fun q hq => by
    rcases List.mem_append.mp hq with h | h
    · exact hS.2.2 q h
    · exact hL q h⟩ T' rfl X'
  exact ⟨t2, st t2 a1, b1⟩
end MXS
