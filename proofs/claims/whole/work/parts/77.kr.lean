/-! the component's calls: sorts of a sheet; a seller -/
theorem pu_self {h : MXH} {x : va_E} : (h ++ [x])[h.length]? = some x := by simp
theorem pu_lt {h l : MXH} {j : Nat} (hj : j < h.length) : (h ++ l)[j]? = h[j]? := List.getElem?_append_left hj
theorem pu_set {h : MXH} {x y : va_E} : (h ++ [x]).set h.length y = h ++ [y] := by simp
section FY
variable {h h' : MXH}
theorem RO.fy {a n : Nat} {sz : Int32} {f : Nat → Int32} (e : ∀ j, j < 111 → h'[j]? = h[j]?) (ha : a + 1 < 111) (r : RO h a n sz f) : RO h' a n sz f := by
  obtain ⟨h1, g, h2, h3⟩ := r
  exact ⟨by rw [e a (by omega)]; exact h1, g, by rw [e _ (by omega)]; exact h2, h3⟩
theorem RS.fy {a n : Nat} (e : ∀ j, j < 111 → h'[j]? = h[j]?) (ha : a + 1 < 111) (r : RS h a n) : RS h' a n := by
  obtain ⟨sz, g, h1, h2⟩ := r
  exact ⟨sz, g, by rw [e a (by omega)]; exact h1, by rw [e _ (by omega)]; exact h2⟩
theorem MS.fy {b : Nat} (e : ∀ j, j < 111 → h'[j]? = h[j]?) (hb : b ≤ 84) (r : MS h b) : MS h' b := by
  obtain ⟨mi, mr, mt, ms, r⟩ := r
  exact ⟨mi, mr, mt, ms, r.cg (fun j h1 h2 => e j (by omega))⟩
theorem MK.fy {b : Nat} {m : Nat → Int32} {G : MXGf} {ns nb : Nat} (e : ∀ j, j < 111 → h'[j]? = h[j]?) (ev : EV h h') (hb : b ≤ 84) (r : MK h b m G ns nb) : MK h' b m G ns nb := by
  obtain ⟨mi, mr, mt, ms, r, q, mx⟩ := r
  exact ⟨mi, mr, mt, ms, r.cg (fun j h1 h2 => e j (by omega)), q, mx.ev ev⟩
theorem CW.fy {v : Nat → Int32} {A : Nat → Nat → Int32} (e : ∀ j, j < 111 → h'[j]? = h[j]?) (ev : EV h h') (c : CW h v A) : CW h' v A := by
  obtain ⟨⟨ci, o, z⟩, c1, c2, c3, ⟨s17, r29, r31, c4⟩, c5, ⟨⟨sf, g35, e35⟩, c6⟩, ⟨ef, g36, e36⟩, ⟨s37, ⟨cf, g49, e49⟩, ⟨f50, g50⟩, ⟨f51, g51⟩, s60⟩⟩ := c
  refine ⟨⟨ci, by rw [e 0 (by omega)]; exact o, z⟩, MK.fy e ev (by omega) c1, RO.fy e (by omega) c2, RO.fy e (by omega) c3, ⟨s17.fy e (by omega), r29.fy e (by omega), r31.fy e (by omega), fun q => ?_⟩, RO.fy e (by omega) c5, ⟨⟨sf, by rw [e 35 (by omega)]; exact g35, e35⟩, fun i hi => ?_⟩, ⟨ef, by rw [e 36 (by omega)]; exact g36, e36⟩, s37.fy e (by omega), ⟨cf, by rw [e 49 (by omega)]; exact g49, e49⟩, ⟨f50, by rw [e 50 (by omega)]; exact g50⟩, ⟨f51, by rw [e 51 (by omega)]; exact g51⟩, fun i hi => (s60 i hi).fy e (by omega)⟩
  · obtain ⟨a, b, c⟩ := c4 q
    exact ⟨MK.fy e ev (by omega) a, b.fy e (by omega), c.fy e (by omega)⟩
  · obtain ⟨a, g, b, c⟩ := c6 i hi
    exact ⟨by rw [e _ (by omega)]; exact a, g, by rw [e _ (by omega)]; exact b, c⟩
theorem EV.pu {l : MXH} : EV h (h ++ l) := EV.lo (fun j _ hj => pu_lt hj)
end FY
/-- a final field, in a constructor -/
theorem pk_ini {k : Nat} {h : MXH} {a j ci : Nat} {fs : List Value} {v : Value} {cs : List (Nat × Nat)} {ty : FieldType} {dc : String} (ho : h[a]? = some (.inr (ci, fs))) (hc : (mx_pk cs ci).isSome = true) (hf : mx_ftT ci j = some (ty, true, dc)) (hfit : mx_fit ty v = true) (hj : j < fs.length) (hi : (mx_isInit k && decide (dc = mx_cn (mx_ow k))) = true) : pk_ k h a j v cs = true := by
  unfold pk_
  rw [ho]
  simp only
  cases hp : mx_pk cs ci with
  | none => rw [hp] at hc; cases hc
  | some q =>
    rw [hf]
    simp only [hfit, hi, decide_eq_true hj, Bool.and_self, Bool.or_true]
theorem ini40 : (mx_isInit 40 && decide ("FallingSlates$Seller" = mx_cn (mx_ow 40))) = true := by decide +kernel
section SO
variable {h : MXH} {a ci : Nat} {n k m c w x : Int32}
theorem sof_pf0 (ho : h[a]? = some (.inr (ci, sof n k m c w))) : pf_ h a 0 (.int x) = h.set a (.inr (ci, sof x k m c w)) := by unfold pf_; rw [ho]; rfl
theorem sof_pf1 (ho : h[a]? = some (.inr (ci, sof n k m c w))) : pf_ h a 1 (.int x) = h.set a (.inr (ci, sof n x m c w)) := by unfold pf_; rw [ho]; rfl
theorem sof_pf2 (ho : h[a]? = some (.inr (ci, sof n k m c w))) : pf_ h a 2 (.int x) = h.set a (.inr (ci, sof n k x c w)) := by unfold pf_; rw [ho]; rfl
theorem sof_pf3 (ho : h[a]? = some (.inr (ci, sof n k m c w))) : pf_ h a 3 (.int x) = h.set a (.inr (ci, sof n k m x w)) := by unfold pf_; rw [ho]; rfl
theorem sof_pf4 (ho : h[a]? = some (.inr (ci, sof n k m c w))) : pf_ h a 4 (.int x) = h.set a (.inr (ci, sof n k m c x)) := by unfold pf_; rw [ho]; rfl
theorem scl_ft {q j : Nat} (hq : q ≤ 6) (hj : j < 5) : mx_ftT (scl q) j = some (.int, true, "FallingSlates$Seller") := by
  match q, hq with
  | 0, _ => match j, hj with
    | 0, _ => rfl
    | 1, _ => rfl
    | 2, _ => rfl
    | 3, _ => rfl
    | 4, _ => rfl
    | n + 5, h => omega
  | 1, _ => match j, hj with
    | 0, _ => rfl
    | 1, _ => rfl
    | 2, _ => rfl
    | 3, _ => rfl
    | 4, _ => rfl
    | n + 5, h => omega
  | 2, _ => match j, hj with
    | 0, _ => rfl
    | 1, _ => rfl
    | 2, _ => rfl
    | 3, _ => rfl
    | 4, _ => rfl
    | n + 5, h => omega
  | 3, _ => match j, hj with
    | 0, _ => rfl
    | 1, _ => rfl
    | 2, _ => rfl
    | 3, _ => rfl
    | 4, _ => rfl
    | n + 5, h => omega
  | 4, _ => match j, hj with
    | 0, _ => rfl
    | 1, _ => rfl
    | 2, _ => rfl
    | 3, _ => rfl
    | 4, _ => rfl
    | n + 5, h => omega
  | 5, _ => match j, hj with
    | 0, _ => rfl
    | 1, _ => rfl
    | 2, _ => rfl
    | 3, _ => rfl
    | 4, _ => rfl
    | n + 5, h => omega
  | 6, _ => match j, hj with
    | 0, _ => rfl
    | 1, _ => rfl
    | 2, _ => rfl
    | 3, _ => rfl
    | 4, _ => rfl
    | n + 5, h => omega
  | n + 7, h => omega
theorem scl_pk {q : Nat} (hq : q ≤ 6) : (mx_pk [(0, 0), (1, 0), (2, 0), (4, 0), (6, 0), (8, 0), (9, 0)] (scl q)).isSome = true := by
  match q, hq with
  | 0, _ => rfl
  | 1, _ => rfl
  | 2, _ => rfl
  | 3, _ => rfl
  | 4, _ => rfl
  | 5, _ => rfl
  | 6, _ => rfl
  | n + 7, h => omega
theorem sof_pk40 {q j : Nat} (hq : q ≤ 6) (hj : j < 5) (ho : h[a]? = some (.inr (scl q, sof n k m c w))) : pk_ 40 h a j (.int x) [(0, 0), (1, 0), (2, 0), (4, 0), (6, 0), (8, 0), (9, 0)] = true := pk_ini ho (scl_pk hq) (scl_ft hq hj) rfl hj ini40
end SO
section KR1
variable {X : MXX} {d : Nat} {h : MXH} {Q : MXP} {v : Nat → Int32} {A : Nat → Nat → Int32}
theorem k_sinit {a q : Nat} {n k m c w n1 k1 m1 c1 w1 : Int32} (hq : q ≤ 6) (ho : h[a]? = some (.inr (scl q, sof n k m c w))) : ev_ X (d + 1) 40 [.ref a, .int n1, .int k1, .int m1, .int c1, .int w1] h Q = Q none (h.set a (.inr (scl q, sof n1 k1 m1 c1 w1))) := by
  have os : ∀ n k m c w, (h.set a (.inr (scl q, sof n k m c w)))[a]? = some (.inr (scl q, sof n k m c w)) := fun n k m c w => mx_gss (by rw [ho]; rfl)
  simp only [i40_0, i40_1, i40_4, i40_5, i40_6, i40_9, i40_10, i40_11, i40_14, i40_15, i40_16, i40_19, i40_20, i40_22, i40_25, i40_26, i40_28, i40_31, i40_e, sof_pk40 hq (show 0 < 5 by decide) ho, sof_pf0 ho, sof_pk40 hq (show 1 < 5 by decide) (os _ _ _ _ _), sof_pf1 (os _ _ _ _ _), sof_pk40 hq (show 2 < 5 by decide) (os _ _ _ _ _), sof_pf2 (os _ _ _ _ _), sof_pk40 hq (show 3 < 5 by decide) (os _ _ _ _ _), sof_pf3 (os _ _ _ _ _), sof_pk40 hq (show 4 < 5 by decide) (os _ _ _ _ _), sof_pf4 (os _ _ _ _ _), List.set_set, true_and, and_true, eq_self, true_or, or_true, bi_01, mx_nl_i, mx_nl_r, mx_nl_n, mx_nl_f, mx_nl_d]
variable {n m c w : Int32}
theorem k_sinit1 {a q : Nat} {n k m c w n1 k1 m1 c1 w1 : Int32} (hq : q ≤ 6) (ho : h[a]? = some (.inr (scl q, sof n k m c w))) : ev_ X (d + 2) 0 [.ref a, .int n1, .int k1, .int m1, .int c1, .int w1] h Q = Q none (h.set a (.inr (scl q, sof n1 k1 m1 c1 w1))) := by
  simp only [i0_0, i0_1, i0_2, i0_3, i0_4, i0_6, i0_8, i0_11, i0_e, k_sinit hq ho, Option.toList_some, Option.toList_none, List.nil_append, List.cons_append, true_and, and_true, eq_self, true_or, or_true, bi_01, mx_nl_i, mx_nl_r, mx_nl_n, mx_nl_f, mx_nl_d]
theorem k_sinit2 {a q : Nat} {n k m c w n1 k1 m1 c1 w1 : Int32} (hq : q ≤ 6) (ho : h[a]? = some (.inr (scl q, sof n k m c w))) : ev_ X (d + 2) 52 [.ref a, .int n1, .int k1, .int m1, .int c1, .int w1] h Q = Q none (h.set a (.inr (scl q, sof n1 k1 m1 c1 w1))) := by
  simp only [i52_0, i52_1, i52_2, i52_3, i52_4, i52_6, i52_8, i52_11, i52_e, k_sinit hq ho, Option.toList_some, Option.toList_none, List.nil_append, List.cons_append, true_and, and_true, eq_self, true_or, or_true, bi_01, mx_nl_i, mx_nl_r, mx_nl_n, mx_nl_f, mx_nl_d]
theorem k_sinit4 {a q : Nat} {n k m c w n1 k1 m1 c1 w1 : Int32} (hq : q ≤ 6) (ho : h[a]? = some (.inr (scl q, sof n k m c w))) : ev_ X (d + 2) 3 [.ref a, .int n1, .int k1, .int m1, .int c1, .int w1] h Q = Q none (h.set a (.inr (scl q, sof n1 k1 m1 c1 w1))) := by
  simp only [i3_0, i3_1, i3_2, i3_3, i3_4, i3_6, i3_8, i3_11, i3_e, k_sinit hq ho, Option.toList_some, Option.toList_none, List.nil_append, List.cons_append, true_and, and_true, eq_self, true_or, or_true, bi_01, mx_nl_i, mx_nl_r, mx_nl_n, mx_nl_f, mx_nl_d]
theorem k_sinit3 {a q : Nat} {n k m c w n1 k1 m1 c1 w1 : Int32} (hq : q ≤ 6) (ho : h[a]? = some (.inr (scl q, sof n k m c w))) : ev_ X (d + 3) 6 [.ref a, .int n1, .int k1, .int m1, .int c1, .int w1] h Q = Q none (h.set a (.inr (scl q, sof n1 k1 m1 c1 w1))) := by
  simp only [i6_0, i6_1, i6_2, i6_3, i6_4, i6_6, i6_8, i6_11, i6_e, k_sinit2 hq ho, Option.toList_some, Option.toList_none, List.nil_append, List.cons_append, true_and, and_true, eq_self, true_or, or_true, bi_01, mx_nl_i, mx_nl_r, mx_nl_n, mx_nl_f, mx_nl_d]
theorem k_sinit5 {a q : Nat} {n k m c w n1 k1 m1 c1 w1 : Int32} (hq : q ≤ 6) (ho : h[a]? = some (.inr (scl q, sof n k m c w))) : ev_ X (d + 3) 55 [.ref a, .int n1, .int k1, .int m1, .int c1, .int w1] h Q = Q none (h.set a (.inr (scl q, sof n1 k1 m1 c1 w1))) := by
  simp only [i55_0, i55_1, i55_2, i55_3, i55_4, i55_6, i55_8, i55_11, i55_e, k_sinit4 hq ho, Option.toList_some, Option.toList_none, List.nil_append, List.cons_append, true_and, and_true, eq_self, true_or, or_true, bi_01, mx_nl_i, mx_nl_r, mx_nl_n, mx_nl_f, mx_nl_d]
theorem k_sinit6 {a q : Nat} {n k m c w n1 k1 m1 c1 w1 : Int32} (hq : q ≤ 6) (ho : h[a]? = some (.inr (scl q, sof n k m c w))) : ev_ X (d + 3) 30 [.ref a, .int n1, .int k1, .int m1, .int c1, .int w1] h Q = Q none (h.set a (.inr (scl q, sof n1 k1 m1 c1 w1))) := by
  simp only [i30_0, i30_1, i30_2, i30_3, i30_4, i30_6, i30_8, i30_11, i30_e, k_sinit1 hq ho, Option.toList_some, Option.toList_none, List.nil_append, List.cons_append, true_and, and_true, eq_self, true_or, or_true, bi_01, mx_nl_i, mx_nl_r, mx_nl_n, mx_nl_f, mx_nl_d]
theorem k_newS {q : Nat} (hq : q ≤ 6) : ev_ X (d + 4) 117 [.int n, .int (nI q), .int m, .int c, .int w] h Q = Q (some (.ref h.length)) (h ++ [.inr (scl q, sof n (nI q) m c w)]) := by
  match q, hq with
  | 0, _ =>
    have ho : (h ++ [.inr (6, [.int 0, .int 0, .int 0, .int 0, .int 0])])[h.length]? = some (.inr (scl 0, sof 0 0 0 0 0)) := pu_self
    simp only [i117_0, i117_40, i117_43, i117_44, i117_45, i117_46, i117_47, i117_48, i117_50, i117_53, i117_54, i117_57, i117_58, i117_59, i117_60, i117_61, i117_62, i117_64, i117_67, i117_68, i117_71, i117_72, i117_73, i117_74, i117_75, i117_76, i117_78, i117_81, i117_82, i117_85, i117_86, i117_87, i117_88, i117_89, i117_90, i117_92, i117_95, i117_96, i117_99, i117_100, i117_101, i117_102, i117_103, i117_104, i117_106, i117_109, i117_110, i117_113, i117_114, i117_115, i117_116, i117_117, i117_118, i117_120, i117_123, i117_124, i117_127, i117_128, i117_129, i117_130, i117_131, i117_132, i117_134, i117_137, i117_e, show (nI 0 : Int32) = 0 from rfl, i117_1_d (x := 0) (by decide), k_sinit (show 0 ≤ 6 by decide) ho, pu_set, Option.toList_some, Option.toList_none, List.nil_append, List.cons_append, true_and, and_true, eq_self, true_or, or_true, bi_01, mx_nl_i, mx_nl_r, mx_nl_n, mx_nl_f, mx_nl_d]
  | 1, _ =>
    have ho : (h ++ [.inr (0, [.int 0, .int 0, .int 0, .int 0, .int 0])])[h.length]? = some (.inr (scl 1, sof 0 0 0 0 0)) := pu_self
    simp only [i117_0, i117_40, i117_43, i117_44, i117_45, i117_46, i117_47, i117_48, i117_50, i117_53, i117_54, i117_57, i117_58, i117_59, i117_60, i117_61, i117_62, i117_64, i117_67, i117_68, i117_71, i117_72, i117_73, i117_74, i117_75, i117_76, i117_78, i117_81, i117_82, i117_85, i117_86, i117_87, i117_88, i117_89, i117_90, i117_92, i117_95, i117_96, i117_99, i117_100, i117_101, i117_102, i117_103, i117_104, i117_106, i117_109, i117_110, i117_113, i117_114, i117_115, i117_116, i117_117, i117_118, i117_120, i117_123, i117_124, i117_127, i117_128, i117_129, i117_130, i117_131, i117_132, i117_134, i117_137, i117_e, show (nI 1 : Int32) = 1 from rfl, i117_1_1, k_sinit1 (show 1 ≤ 6 by decide) ho, pu_set, Option.toList_some, Option.toList_none, List.nil_append, List.cons_append, true_and, and_true, eq_self, true_or, or_true, bi_01, mx_nl_i, mx_nl_r, mx_nl_n, mx_nl_f, mx_nl_d]
  | 2, _ =>
    have ho : (h ++ [.inr (8, [.int 0, .int 0, .int 0, .int 0, .int 0])])[h.length]? = some (.inr (scl 2, sof 0 0 0 0 0)) := pu_self
    simp only [i117_0, i117_40, i117_43, i117_44, i117_45, i117_46, i117_47, i117_48, i117_50, i117_53, i117_54, i117_57, i117_58, i117_59, i117_60, i117_61, i117_62, i117_64, i117_67, i117_68, i117_71, i117_72, i117_73, i117_74, i117_75, i117_76, i117_78, i117_81, i117_82, i117_85, i117_86, i117_87, i117_88, i117_89, i117_90, i117_92, i117_95, i117_96, i117_99, i117_100, i117_101, i117_102, i117_103, i117_104, i117_106, i117_109, i117_110, i117_113, i117_114, i117_115, i117_116, i117_117, i117_118, i117_120, i117_123, i117_124, i117_127, i117_128, i117_129, i117_130, i117_131, i117_132, i117_134, i117_137, i117_e, show (nI 2 : Int32) = 2 from rfl, i117_1_2, k_sinit2 (show 2 ≤ 6 by decide) ho, pu_set, Option.toList_some, Option.toList_none, List.nil_append, List.cons_append, true_and, and_true, eq_self, true_or, or_true, bi_01, mx_nl_i, mx_nl_r, mx_nl_n, mx_nl_f, mx_nl_d]
  | 3, _ =>
    have ho : (h ++ [.inr (2, [.int 0, .int 0, .int 0, .int 0, .int 0])])[h.length]? = some (.inr (scl 3, sof 0 0 0 0 0)) := pu_self
    simp only [i117_0, i117_40, i117_43, i117_44, i117_45, i117_46, i117_47, i117_48, i117_50, i117_53, i117_54, i117_57, i117_58, i117_59, i117_60, i117_61, i117_62, i117_64, i117_67, i117_68, i117_71, i117_72, i117_73, i117_74, i117_75, i117_76, i117_78, i117_81, i117_82, i117_85, i117_86, i117_87, i117_88, i117_89, i117_90, i117_92, i117_95, i117_96, i117_99, i117_100, i117_101, i117_102, i117_103, i117_104, i117_106, i117_109, i117_110, i117_113, i117_114, i117_115, i117_116, i117_117, i117_118, i117_120, i117_123, i117_124, i117_127, i117_128, i117_129, i117_130, i117_131, i117_132, i117_134, i117_137, i117_e, show (nI 3 : Int32) = 3 from rfl, i117_1_3, k_sinit3 (show 3 ≤ 6 by decide) ho, pu_set, Option.toList_some, Option.toList_none, List.nil_append, List.cons_append, true_and, and_true, eq_self, true_or, or_true, bi_01, mx_nl_i, mx_nl_r, mx_nl_n, mx_nl_f, mx_nl_d]
  | 4, _ =>
    have ho : (h ++ [.inr (1, [.int 0, .int 0, .int 0, .int 0, .int 0])])[h.length]? = some (.inr (scl 4, sof 0 0 0 0 0)) := pu_self
    simp only [i117_0, i117_40, i117_43, i117_44, i117_45, i117_46, i117_47, i117_48, i117_50, i117_53, i117_54, i117_57, i117_58, i117_59, i117_60, i117_61, i117_62, i117_64, i117_67, i117_68, i117_71, i117_72, i117_73, i117_74, i117_75, i117_76, i117_78, i117_81, i117_82, i117_85, i117_86, i117_87, i117_88, i117_89, i117_90, i117_92, i117_95, i117_96, i117_99, i117_100, i117_101, i117_102, i117_103, i117_104, i117_106, i117_109, i117_110, i117_113, i117_114, i117_115, i117_116, i117_117, i117_118, i117_120, i117_123, i117_124, i117_127, i117_128, i117_129, i117_130, i117_131, i117_132, i117_134, i117_137, i117_e, show (nI 4 : Int32) = 4 from rfl, i117_1_4, k_sinit4 (show 4 ≤ 6 by decide) ho, pu_set, Option.toList_some, Option.toList_none, List.nil_append, List.cons_append, true_and, and_true, eq_self, true_or, or_true, bi_01, mx_nl_i, mx_nl_r, mx_nl_n, mx_nl_f, mx_nl_d]
  | 5, _ =>
    have ho : (h ++ [.inr (9, [.int 0, .int 0, .int 0, .int 0, .int 0])])[h.length]? = some (.inr (scl 5, sof 0 0 0 0 0)) := pu_self
    simp only [i117_0, i117_40, i117_43, i117_44, i117_45, i117_46, i117_47, i117_48, i117_50, i117_53, i117_54, i117_57, i117_58, i117_59, i117_60, i117_61, i117_62, i117_64, i117_67, i117_68, i117_71, i117_72, i117_73, i117_74, i117_75, i117_76, i117_78, i117_81, i117_82, i117_85, i117_86, i117_87, i117_88, i117_89, i117_90, i117_92, i117_95, i117_96, i117_99, i117_100, i117_101, i117_102, i117_103, i117_104, i117_106, i117_109, i117_110, i117_113, i117_114, i117_115, i117_116, i117_117, i117_118, i117_120, i117_123, i117_124, i117_127, i117_128, i117_129, i117_130, i117_131, i117_132, i117_134, i117_137, i117_e, show (nI 5 : Int32) = 5 from rfl, i117_1_5, k_sinit5 (show 5 ≤ 6 by decide) ho, pu_set, Option.toList_some, Option.toList_none, List.nil_append, List.cons_append, true_and, and_true, eq_self, true_or, or_true, bi_01, mx_nl_i, mx_nl_r, mx_nl_n, mx_nl_f, mx_nl_d]
  | 6, _ =>
    have ho : (h ++ [.inr (4, [.int 0, .int 0, .int 0, .int 0, .int 0])])[h.length]? = some (.inr (scl 6, sof 0 0 0 0 0)) := pu_self
    simp only [i117_0, i117_40, i117_43, i117_44, i117_45, i117_46, i117_47, i117_48, i117_50, i117_53, i117_54, i117_57, i117_58, i117_59, i117_60, i117_61, i117_62, i117_64, i117_67, i117_68, i117_71, i117_72, i117_73, i117_74, i117_75, i117_76, i117_78, i117_81, i117_82, i117_85, i117_86, i117_87, i117_88, i117_89, i117_90, i117_92, i117_95, i117_96, i117_99, i117_100, i117_101, i117_102, i117_103, i117_104, i117_106, i117_109, i117_110, i117_113, i117_114, i117_115, i117_116, i117_117, i117_118, i117_120, i117_123, i117_124, i117_127, i117_128, i117_129, i117_130, i117_131, i117_132, i117_134, i117_137, i117_e, show (nI 6 : Int32) = 6 from rfl, i117_1_6, k_sinit6 (show 6 ≤ 6 by decide) ho, pu_set, Option.toList_some, Option.toList_none, List.nil_append, List.cons_append, true_and, and_true, eq_self, true_or, or_true, bi_01, mx_nl_i, mx_nl_r, mx_nl_n, mx_nl_f, mx_nl_d]
  | n + 7, h => omega
set_option maxHeartbeats 1000000 in
theorem q_seller (c : CW h v A) (ok : OK v A) (hl : 111 ≤ h.length) {a b x : Int32} (k : KC h (sp_seller v A a b x) Q) : ev_ X (d + 9) 70 [.ref 0, .int a, .int b, .int x] h Q := by
  have cw := c
  obtain ⟨⟨ci, o, z3, z8, z7⟩, c1, c2, c3, c4, c5, c6, ⟨ef, g36, e36⟩, c8⟩ := c
  have md := MD.ab ok.1.1
  have di : DI (A 0) := ⟨ok.1.2.2.2.2.2.2.1, ok.1.2.2.2.2.2.2.2.1⟩
  obtain ⟨mi, mr, mt, ms, r, q, mx⟩ := c1
  replace q : MR (A 0) mi mr (nsA A) (nbA A) := q
  replace mx : MX h (A 0) (G_ (A 0)) mt ms (nsA A) := mx
  have mk : MK h 1 (A 0) (G_ (A 0)) (nsA A) (nbA A) := ⟨mi, mr, mt, ms, r, q, mx⟩
  obtain ⟨hns, hnb, e1, e2, e3⟩ := id md
  have q7 : mi 7 = A 0 1 := by rw [e1]; exact q.1.2.2.2.2.1
  have q12 : mi 12 = A 0 2 := by rw [e2]; exact q.1.2.2.2.2.2
  unfold sp_seller at k
  by_cases hc : (0 ≤ a ∧ a ≤ 6) ∧ (0 ≤ b ∧ b ≤ 99) ∧ (0 ≤ x ∧ x ≤ 9999)
  case neg =>
    rw [if_neg hc] at k
    have hf := k.er cw (by decide) (by decide) g36
    by_cases c1 : (0 ≤ a ∧ a ≤ 6) <;> by_cases c2 : (0 ≤ b ∧ b ≤ 99) <;> by_cases c3 : (0 ≤ x ∧ x ≤ 9999)
    · exact False.elim (hc ⟨c1, c2, c3⟩)
    all_goals simp only [i70_0, i70_1, i70_2, i70_4, i70_7, i70_10, i70_11, i70_12, i70_14, i70_17, i70_20, i70_21, i70_22, i70_25, i70_28, i70_31, i70_32, i70_35, i70_36, i70_38, i70_40, i70_43, i70_44, i70_45, i70_48, i70_49, i70_50, i70_53, i70_56, i70_58, i70_61, i70_62, i70_63, i70_66, i70_67, i70_68, i70_71, i70_72, i70_75, i70_78, i70_79, i70_80, i70_81, i70_83, i70_84, i70_85, i70_87, i70_88, i70_91, i70_94, i70_e, cof_gk o, cof_gv o, ob_co o, k_in, k_isSheet, k_isUse, k_isAhead, bi_eq0, decide_true, decide_false, and_self, if_true, if_false, reduceCtorEq, not_true_eq_false, not_false_eq_true, mx_t0, Option.toList_some, Option.toList_none, List.nil_append, List.cons_append, true_and, and_true, eq_self, true_or, or_true, bi_01, mx_nl_i, mx_nl_r, mx_nl_n, mx_nl_f, mx_nl_d, kof_gk r.o, kof_gv r.o, ob_co r.o, k_isSeller o r q7, k_isSort o r q12, k_e1 o g36, k_e2 o g36, k_e3 o g36, k_e4 o g36, k_e5 o g36, c1, c2, c3]
    all_goals exact hf
  rw [if_pos hc] at k
  obtain ⟨c1, c2', c3'⟩ := hc
  by_cases c4' : A 0 1 = 6
  · rw [if_pos c4'] at k
    simp only [i70_0, i70_1, i70_2, i70_4, i70_7, i70_10, i70_11, i70_12, i70_14, i70_17, i70_20, i70_21, i70_22, i70_25, i70_28, i70_31, i70_32, i70_35, i70_36, i70_38, i70_40, i70_43, i70_44, i70_45, i70_48, i70_49, i70_50, i70_53, i70_56, i70_58, i70_61, i70_62, i70_63, i70_66, i70_67, i70_68, i70_71, i70_72, i70_75, i70_78, i70_79, i70_80, i70_81, i70_83, i70_84, i70_85, i70_87, i70_88, i70_91, i70_94, i70_e, cof_gk o, cof_gv o, ob_co o, k_in, k_isSheet, k_isUse, k_isAhead, bi_eq0, decide_true, decide_false, and_self, if_true, if_false, reduceCtorEq, not_true_eq_false, not_false_eq_true, mx_t0, Option.toList_some, Option.toList_none, List.nil_append, List.cons_append, true_and, and_true, eq_self, true_or, or_true, bi_01, mx_nl_i, mx_nl_r, mx_nl_n, mx_nl_f, mx_nl_d, kof_gk r.o, kof_gv r.o, ob_co r.o, k_isSeller o r q7, k_isSort o r q12, k_e1 o g36, k_e2 o g36, k_e3 o g36, k_e4 o g36, k_e5 o g36, c1, c2', c3', q7, c4', show ¬ ((1 : Int32) = 0) from by decide, show ¬ ((6 : Int32) < 6) from by decide]
    exact k.er cw (by decide) (by decide) g36
  rw [if_neg c4'] at k
  have hlt : nsA A < 6 := by
    have : ¬ nsA A = 6 := fun e => c4' (by rw [e1, e]; rfl)
    omega
  have c5' : A 0 1 < 6 := by
    rw [e1]
    exact (nI_ltI (b := 6) (by omega) (by decide)).mpr hlt
  obtain ⟨kd, hkd, rfl⟩ := nI_rng (k := 6) (by decide) c1
  have cw1 : CW (h ++ [.inr (scl kd, sof (A 0 1) (nI kd) b (x / 10) (x - x / 10 * 10))]) v A := cw.fy (fun j hj => pu_lt (by omega)) EV.pu
  have mk1 : MK (h ++ [.inr (scl kd, sof (A 0 1) (nI kd) b (x / 10) (x - x / 10 * 10))]) 1 (A 0) (G_ (A 0)) (nsA A) (nbA A) := mk.fy (fun j hj => pu_lt (by omega)) EV.pu (by omega)
  simp only [i70_0, i70_1, i70_2, i70_4, i70_7, i70_10, i70_11, i70_12, i70_14, i70_17, i70_20, i70_21, i70_22, i70_25, i70_28, i70_31, i70_32, i70_35, i70_36, i70_38, i70_40, i70_43, i70_44, i70_45, i70_48, i70_49, i70_50, i70_53, i70_56, i70_58, i70_61, i70_62, i70_63, i70_66, i70_67, i70_68, i70_71, i70_72, i70_75, i70_78, i70_79, i70_80, i70_81, i70_83, i70_84, i70_85, i70_87, i70_88, i70_91, i70_94, i70_e, cof_gk o, cof_gv o, ob_co o, k_in, k_isSheet, k_isUse, k_isAhead, bi_eq0, decide_true, decide_false, and_self, if_true, if_false, reduceCtorEq, not_true_eq_false, not_false_eq_true, mx_t0, Option.toList_some, Option.toList_none, List.nil_append, List.cons_append, true_and, and_true, eq_self, true_or, or_true, bi_01, mx_nl_i, mx_nl_r, mx_nl_n, mx_nl_f, mx_nl_d, kof_gk r.o, kof_gv r.o, ob_co r.o, k_isSeller o r q7, k_isSort o r q12, c1, c2', c3', q7, c5', show ¬ ((1 : Int32) = 0) from by decide, ne_eq, show ¬ ((10 : Int32) = 0) from by decide, k_newS hkd, mk1.co]
  replace k : KC h (A 0 1, v, up2 A 0 (sel_ (A 0) (nsA A) (nI kd) b x)) Q := k
  refine k_addS (x := nI kd) (y := b) (z := x) (by omega) hlt e1 mk1 ⟨hl, kd, hkd, ?_, ?_⟩ (fun h' mk' f => ?_)
  · unfold sel_
    rw [pk_un (by omega), pk_un (by omega), pk_un (by omega), pk_un (by omega), pk_un (by omega), pk_un (by omega), pk_un (by omega), pk_us]
  · rw [pu_self]
    unfold sel_
    rw [pk_un (j := 20 + 8 * nsA A + 1) (by omega), pk_un (j := 20 + 8 * nsA A + 1) (by omega), pk_un (j := 20 + 8 * nsA A + 1) (by omega), pk_un (j := 20 + 8 * nsA A + 1) (by omega), pk_un (j := 20 + 8 * nsA A + 1) (by omega), pk_un (j := 20 + 8 * nsA A + 1) (by omega), pk_us,
      pk_un (j := 20 + 8 * nsA A + 2) (by omega), pk_un (j := 20 + 8 * nsA A + 2) (by omega), pk_un (j := 20 + 8 * nsA A + 2) (by omega), pk_un (j := 20 + 8 * nsA A + 2) (by omega), pk_un (j := 20 + 8 * nsA A + 2) (by omega), pk_us,
      pk_un (j := 20 + 8 * nsA A + 3) (by omega), pk_un (j := 20 + 8 * nsA A + 3) (by omega), pk_un (j := 20 + 8 * nsA A + 3) (by omega), pk_un (j := 20 + 8 * nsA A + 3) (by omega), pk_us, e1]
  · simp only [i70_0, i70_1, i70_2, i70_4, i70_7, i70_10, i70_11, i70_12, i70_14, i70_17, i70_20, i70_21, i70_22, i70_25, i70_28, i70_31, i70_32, i70_35, i70_36, i70_38, i70_40, i70_43, i70_44, i70_45, i70_48, i70_49, i70_50, i70_53, i70_56, i70_58, i70_61, i70_62, i70_63, i70_66, i70_67, i70_68, i70_71, i70_72, i70_75, i70_78, i70_79, i70_80, i70_81, i70_83, i70_84, i70_85, i70_87, i70_88, i70_91, i70_94, i70_e, Option.toList_some, Option.toList_none, List.nil_append, List.cons_append]
    rw [← e1]
    have so : ∀ j, ¬ (20 + 8 * nsA A ≤ j ∧ j < 20 + 8 * nsA A + 7) → j ≠ 1 → sel_ (A 0) (nsA A) (nI kd) b x j = A 0 j := by
      intro j h1 h2
      unfold sel_
      rw [pk_un h2, pk_un (by omega), pk_un (by omega), pk_un (by omega), pk_un (by omega), pk_un (by omega), pk_un (by omega), pk_un (by omega)]
    refine k h' (cw1.mk f (C1.of mk' ?_ ?_ (fun j hj => so j (by omega) (by omega))) (so _ (by omega) (by omega)) (so _ (by omega) (by omega)) (so _ (by omega) (by omega)) (fun j hj => so _ (by omega) (by omega)) (fun j hj => so _ (by omega) (by omega)) ok) ?_
    · have : sel_ (A 0) (nsA A) (nI kd) b x 1 = nI (nsA A + 1) := by unfold sel_; rw [pk_us, e1, nI_1]
      rw [this, nI_clamp (by omega)]
    · rw [so 2 (by omega) (by omega)]; rfl
    · have fl := f.1
      rw [List.length_append] at fl
      simp only [List.length_cons, List.length_nil] at fl
      exact ⟨by omega, by omega, fun j h1 h2 => (f.2.1 j h2 (by omega)).trans (pu_lt (by omega))⟩
/-! sorts of a sheet -/
set_option maxHeartbeats 1000000 in
theorem k_sorts_l {ci : Nat → Int32} {s sz : Nat} {g : Nat → Int32} {w1 : Value} (hs : s < 4) (hsz : sz ≤ 40) (ok : OK v A) (o : h[0]? = some (.inr (11, cof ci))) (w : h[52 + 2 * s]? = some (.inr (7, hof (53 + 2 * s) (A 10 s) (nI sz)))) (rr : h[53 + 2 * s]? = some (.inl (0, 40, .inl g))) (eg : ∀ j, j < 40 → g j = A 12 (40 * s + j)) (cw : CW h v A)
    (k : KC h (nI (sol_ (A 12) (40 * s) (nI sz) 14 (A 0) 0).2, v, up2 A 0 (sol_ (A 12) (40 * s) (nI sz) 14 (A 0) 0).1) Q) :
    ∀ (n : Nat) (h1 : MXH) (m1 : Nat → Int32) (c nb : Nat), 14 = c + n → nb ≤ 8 → m1 2 = nI nb → MK h1 1 m1 (G_ (A 0)) (nsA A) nb → (∀ j, j ≠ 2 → ¬ (70 ≤ j ∧ j < 102) → m1 j = A 0 j) → FX 1 13 h h1 → sol_ (A 12) (40 * s) (nI sz) n m1 c = sol_ (A 12) (40 * s) (nI sz) 14 (A 0) 0 → ex_ X (d + 9) 77 44 [.ref 0, w1, .ref (52 + 2 * s), .ref (53 + 2 * s), .int (nI c), .int (nI (3 * c))] [] h1 Q := by
  intro n
  have hns : nsA A ≤ 6 := (MD.ab ok.1.1).1
  have stop : ∀ (h1 : MXH) (m1 : Nat → Int32) (c nb : Nat), nb ≤ 8 → m1 2 = nI nb → MK h1 1 m1 (G_ (A 0)) (nsA A) nb → (∀ j, j ≠ 2 → ¬ (70 ≤ j ∧ j < 102) → m1 j = A 0 j) → FX 1 13 h h1 → (m1, c) = sol_ (A 12) (40 * s) (nI sz) 14 (A 0) 0 → Q (some (.int (nI c))) h1 := by
    intro h1 m1 c nb hnb e2 mk ag fx es
    rw [← es] at k
    refine k.mk cw fx (C1.of mk ?_ ?_ (fun j hj => ag j (by omega) (by omega))) (ag _ (by omega) (by omega)) (ag _ (by omega) (by omega)) (ag _ (by omega) (by omega)) (fun j hj => ag _ (by omega) (by omega)) (fun j hj => ag _ (by omega) (by omega)) ok
    · show (m1 1).toNatClampNeg = _
      rw [ag 1 (by omega) (by omega)]; rfl
    · show (m1 2).toNatClampNeg = _
      rw [e2, nI_clamp (by omega)]
  induction n with
  | zero =>
    intro h1 m1 c nb hc hnb e2 mk ag fx es
    have e : c = 14 := by omega
    subst e
    have o1 : h1[0]? = some (.inr (11, cof ci)) := by rw [fx.2.1 0 (by omega) (by omega)]; exact o
    have w1' : h1[52 + 2 * s]? = some (.inr (7, hof (53 + 2 * s) (A 10 s) (nI sz))) := by rw [fx.2.1 _ (by omega) (by omega)]; exact w
    have hcc : (nI sz : Int32) < nI (3 * 14 + 3) := (nI_ltI (by omega) (by decide)).mpr (by omega)
    have x3 : (nI (3 * 14) + 3 : Int32) = nI (3 * 14 + 3) := nI_add _ 3
    rw [i77_44]
    simp only [i77_0, i77_1, i77_4, i77_7, i77_8, i77_9, i77_12, i77_13, i77_14, i77_17, i77_18, i77_19, i77_20, i77_21, i77_24, i77_27, i77_28, i77_29, i77_32, i77_33, i77_34, i77_37, i77_38, i77_39, i77_41, i77_42, i77_46, i77_47, i77_48, i77_49, i77_52, i77_55, i77_56, i77_59, i77_62, i77_64, i77_67, i77_68, i77_70, i77_71, i77_72, i77_74, i77_75, i77_76, i77_77, i77_78, i77_80, i77_81, i77_82, i77_83, i77_86, i77_89, i77_92, i77_93, i77_96, i77_97, i77_99, i77_100, i77_101, i77_103, i77_104, i77_105, i77_106, i77_107, i77_109, i77_110, i77_111, i77_112, i77_115, i77_116, i77_119, i77_122, i77_125, i77_127, i77_e, hof_gk w1', hof_gv w1', x3, hcc, if_true, true_and, and_true, eq_self, true_or, or_true, bi_01, mx_nl_i, mx_nl_r, mx_nl_n, mx_nl_f, mx_nl_d]
    exact stop h1 m1 14 nb hnb e2 mk ag fx es
  | succ n ih =>
    intro h1 m1 c nb hc hnb e2 mk ag fx es
    have o1 : h1[0]? = some (.inr (11, cof ci)) := by rw [fx.2.1 0 (by omega) (by omega)]; exact o
    have w1' : h1[52 + 2 * s]? = some (.inr (7, hof (53 + 2 * s) (A 10 s) (nI sz))) := by rw [fx.2.1 _ (by omega) (by omega)]; exact w
    have rr1 : h1[53 + 2 * s]? = some (.inl (0, 40, .inl g)) := by rw [fx.2.1 _ (by omega) (by omega)]; exact rr
    have x3 : (nI (3 * c) + 3 : Int32) = nI (3 * c + 3) := nI_add _ 3
    have x1 : (nI (3 * c) + 1 : Int32) = nI (3 * c + 1) := nI_add _ 1
    have x2 : (nI (3 * c) + 2 : Int32) = nI (3 * c + 2) := nI_add _ 2
    have x33 : (nI (3 * c) + 3 : Int32) = nI (3 * (c + 1)) := nI_add _ 3
    rw [show sol_ (A 12) (40 * s) (nI sz) (n + 1) m1 c = if nI (3 * c + 3) ≤ nI sz ∧ m1 2 < 8 ∧ ((0 ≤ A 12 (40 * s + 3 * c) ∧ A 12 (40 * s + 3 * c) ≤ 9) ∧ (0 ≤ A 12 (40 * s + 3 * c + 1) ∧ A 12 (40 * s + 3 * c + 1) ≤ 999) ∧ (0 ≤ A 12 (40 * s + 3 * c + 2) ∧ A 12 (40 * s + 3 * c + 2) ≤ 9)) then sol_ (A 12) (40 * s) (nI sz) n (com_ m1 (m1 2).toNatClampNeg (A 12 (40 * s + 3 * c)) (A 12 (40 * s + 3 * c + 1)) (A 12 (40 * s + 3 * c + 2))) (c + 1) else (m1, c) from rfl] at es
    have mk0 := mk
    obtain ⟨mi, mr, mt, ms, r, q, mx⟩ := mk
    have q12 : mi 12 = m1 2 := by rw [e2]; exact q.1.2.2.2.2.2
    by_cases d1 : nI (3 * c + 3) ≤ (nI sz : Int32)
    case neg =>
      rw [if_neg (fun z => d1 z.1)] at es
      rw [i77_44]
      simp only [i77_0, i77_1, i77_4, i77_7, i77_8, i77_9, i77_12, i77_13, i77_14, i77_17, i77_18, i77_19, i77_20, i77_21, i77_24, i77_27, i77_28, i77_29, i77_32, i77_33, i77_34, i77_37, i77_38, i77_39, i77_41, i77_42, i77_46, i77_47, i77_48, i77_49, i77_52, i77_55, i77_56, i77_59, i77_62, i77_64, i77_67, i77_68, i77_70, i77_71, i77_72, i77_74, i77_75, i77_76, i77_77, i77_78, i77_80, i77_81, i77_82, i77_83, i77_86, i77_89, i77_92, i77_93, i77_96, i77_97, i77_99, i77_100, i77_101, i77_103, i77_104, i77_105, i77_106, i77_107, i77_109, i77_110, i77_111, i77_112, i77_115, i77_116, i77_119, i77_122, i77_125, i77_127, i77_e, hof_gk w1', hof_gv w1', x3, Int32.not_le.mp d1, if_true, true_and, and_true, eq_self, true_or, or_true, bi_01, mx_nl_i, mx_nl_r, mx_nl_n, mx_nl_f, mx_nl_d]
      exact stop h1 m1 c nb hnb e2 mk0 ag fx es
    have hlt : 3 * c + 3 ≤ sz := (nI_leI (by omega) (by omega)).mp d1
    by_cases d2 : m1 2 < 8
    case neg =>
      rw [if_neg (fun z => d2 z.2.1)] at es
      rw [i77_44]
      simp only [i77_0, i77_1, i77_4, i77_7, i77_8, i77_9, i77_12, i77_13, i77_14, i77_17, i77_18, i77_19, i77_20, i77_21, i77_24, i77_27, i77_28, i77_29, i77_32, i77_33, i77_34, i77_37, i77_38, i77_39, i77_41, i77_42, i77_46, i77_47, i77_48, i77_49, i77_52, i77_55, i77_56, i77_59, i77_62, i77_64, i77_67, i77_68, i77_70, i77_71, i77_72, i77_74, i77_75, i77_76, i77_77, i77_78, i77_80, i77_81, i77_82, i77_83, i77_86, i77_89, i77_92, i77_93, i77_96, i77_97, i77_99, i77_100, i77_101, i77_103, i77_104, i77_105, i77_106, i77_107, i77_109, i77_110, i77_111, i77_112, i77_115, i77_116, i77_119, i77_122, i77_125, i77_127, i77_e, hof_gk w1', hof_gv w1', x3, Int32.not_lt.mpr d1, if_false, cof_gk o1, cof_gv o1, kof_gk r.o, kof_gv r.o, q12, Int32.not_lt.mp d2, if_true, true_and, and_true, eq_self, true_or, or_true, bi_01, mx_nl_i, mx_nl_r, mx_nl_n, mx_nl_f, mx_nl_d]
      exact stop h1 m1 c nb hnb e2 mk0 ag fx es
    have d2' : ¬ (8 : Int32) ≤ m1 2 := Int32.not_le.mpr d2
    have a0 := eg (3 * c) (by omega)
    have a1 := eg (3 * c + 1) (by omega)
    have a2 := eg (3 * c + 2) (by omega)
    rw [show 40 * s + (3 * c + 1) = 40 * s + 3 * c + 1 by omega] at a1
    rw [show 40 * s + (3 * c + 2) = 40 * s + 3 * c + 2 by omega] at a2
    by_cases d3 : ((0 ≤ A 12 (40 * s + 3 * c) ∧ A 12 (40 * s + 3 * c) ≤ 9) ∧ (0 ≤ A 12 (40 * s + 3 * c + 1) ∧ A 12 (40 * s + 3 * c + 1) ≤ 999) ∧ (0 ≤ A 12 (40 * s + 3 * c + 2) ∧ A 12 (40 * s + 3 * c + 2) ≤ 9))
    case neg =>
      rw [if_neg (fun z => d3 z.2.2)] at es
      have hf : ∀ Q', ev_ X (d + 8) 114 [.int (A 12 (40 * s + 3 * c)), .int (A 12 (40 * s + 3 * c + 1)), .int (A 12 (40 * s + 3 * c + 2))] h1 Q' = Q' (some (.int 0)) h1 := fun Q' => by rw [k_fitsSort, decide_eq_false d3]; rfl
      rw [i77_44]
      simp only [i77_0, i77_1, i77_4, i77_7, i77_8, i77_9, i77_12, i77_13, i77_14, i77_17, i77_18, i77_19, i77_20, i77_21, i77_24, i77_27, i77_28, i77_29, i77_32, i77_33, i77_34, i77_37, i77_38, i77_39, i77_41, i77_42, i77_46, i77_47, i77_48, i77_49, i77_52, i77_55, i77_56, i77_59, i77_62, i77_64, i77_67, i77_68, i77_70, i77_71, i77_72, i77_74, i77_75, i77_76, i77_77, i77_78, i77_80, i77_81, i77_82, i77_83, i77_86, i77_89, i77_92, i77_93, i77_96, i77_97, i77_99, i77_100, i77_101, i77_103, i77_104, i77_105, i77_106, i77_107, i77_109, i77_110, i77_111, i77_112, i77_115, i77_116, i77_119, i77_122, i77_125, i77_127, i77_e, hof_gk w1', hof_gv w1', x3, Int32.not_lt.mpr d1, if_false, cof_gk o1, cof_gv o1, kof_gk r.o, kof_gv r.o, q12, d2', ar_ik rr1, ar_ia rr1, x1, x2, mx_inN (show 3 * c < 40 by omega) (show 40 < 2 ^ 31 by decide), mx_inN (show 3 * c + 1 < 40 by omega) (show 40 < 2 ^ 31 by decide), mx_inN (show 3 * c + 2 < 40 by omega) (show 40 < 2 ^ 31 by decide), nI_clamp (show 3 * c < 2 ^ 31 by omega), nI_clamp (show 3 * c + 1 < 2 ^ 31 by omega), nI_clamp (show 3 * c + 2 < 2 ^ 31 by omega), a0, a1, a2, hf, not_true_eq_false, Option.toList_some, Option.toList_none, List.nil_append, List.cons_append, true_and, and_true, eq_self, true_or, or_true, bi_01, mx_nl_i, mx_nl_r, mx_nl_n, mx_nl_f, mx_nl_d]
      exact stop h1 m1 c nb hnb e2 mk0 ag fx es
    rw [if_pos ⟨d1, d2, d3⟩, e2, nI_clamp (by omega)] at es
    have hnb8 : nb < 8 := by
      rw [e2] at d2
      exact (nI_ltI (b := 8) (by omega) (by decide)).mp d2
    have hf : ∀ Q', ev_ X (d + 8) 114 [.int (A 12 (40 * s + 3 * c)), .int (A 12 (40 * s + 3 * c + 1)), .int (A 12 (40 * s + 3 * c + 2))] h1 Q' = Q' (some (.int 1)) h1 := fun Q' => by rw [k_fitsSort, decide_eq_true d3]; rfl
    rw [i77_44]
    simp only [i77_0, i77_1, i77_4, i77_7, i77_8, i77_9, i77_12, i77_13, i77_14, i77_17, i77_18, i77_19, i77_20, i77_21, i77_24, i77_27, i77_28, i77_29, i77_32, i77_33, i77_34, i77_37, i77_38, i77_39, i77_41, i77_42, i77_46, i77_47, i77_48, i77_49, i77_52, i77_55, i77_56, i77_59, i77_62, i77_64, i77_67, i77_68, i77_70, i77_71, i77_72, i77_74, i77_75, i77_76, i77_77, i77_78, i77_80, i77_81, i77_82, i77_83, i77_86, i77_89, i77_92, i77_93, i77_96, i77_97, i77_99, i77_100, i77_101, i77_103, i77_104, i77_105, i77_106, i77_107, i77_109, i77_110, i77_111, i77_112, i77_115, i77_116, i77_119, i77_122, i77_125, i77_127, i77_e, hof_gk w1', hof_gv w1', x3, Int32.not_lt.mpr d1, if_false, cof_gk o1, cof_gv o1, kof_gk r.o, kof_gv r.o, ob_co r.o, q12, d2', ar_ik rr1, ar_ia rr1, x1, x2, mx_inN (show 3 * c < 40 by omega) (show 40 < 2 ^ 31 by decide), mx_inN (show 3 * c + 1 < 40 by omega) (show 40 < 2 ^ 31 by decide), mx_inN (show 3 * c + 2 < 40 by omega) (show 40 < 2 ^ 31 by decide), nI_clamp (show 3 * c < 2 ^ 31 by omega), nI_clamp (show 3 * c + 1 < 2 ^ 31 by omega), nI_clamp (show 3 * c + 2 < 2 ^ 31 by omega), a0, a1, a2, hf, show ¬ ((1 : Int32) = 0) from by decide, not_false_eq_true, if_true, Option.toList_some, Option.toList_none, List.nil_append, List.cons_append, true_and, and_true, eq_self, true_or, or_true, bi_01, mx_nl_i, mx_nl_r, mx_nl_n, mx_nl_f, mx_nl_d]
    refine k_addB (by omega) hns hnb8 mk0 (fun h2 mk2 f2 => ?_)
    simp only [i77_0, i77_1, i77_4, i77_7, i77_8, i77_9, i77_12, i77_13, i77_14, i77_17, i77_18, i77_19, i77_20, i77_21, i77_24, i77_27, i77_28, i77_29, i77_32, i77_33, i77_34, i77_37, i77_38, i77_39, i77_41, i77_42, i77_46, i77_47, i77_48, i77_49, i77_52, i77_55, i77_56, i77_59, i77_62, i77_64, i77_67, i77_68, i77_70, i77_71, i77_72, i77_74, i77_75, i77_76, i77_77, i77_78, i77_80, i77_81, i77_82, i77_83, i77_86, i77_89, i77_92, i77_93, i77_96, i77_97, i77_99, i77_100, i77_101, i77_103, i77_104, i77_105, i77_106, i77_107, i77_109, i77_110, i77_111, i77_112, i77_115, i77_116, i77_119, i77_122, i77_125, i77_127, i77_e, nI_1, x33, Option.toList_some, Option.toList_none, List.nil_append, List.cons_append, true_and, and_true, eq_self, true_or, or_true, bi_01, mx_nl_i, mx_nl_r, mx_nl_n, mx_nl_f, mx_nl_d]
    have so : ∀ j, ¬ (70 + 4 * nb ≤ j ∧ j < 70 + 4 * nb + 4) → j ≠ 2 → com_ m1 nb (A 12 (40 * s + 3 * c)) (A 12 (40 * s + 3 * c + 1)) (A 12 (40 * s + 3 * c + 2)) j = m1 j := by
      intro j h1 h2
      unfold com_
      rw [pk_un h2, pk_un (by omega), pk_un (by omega), pk_un (by omega), pk_un (by omega)]
    refine ih h2 _ (c + 1) (nb + 1) (by omega) (by omega) ?_ mk2 (fun j h1 h2 => by rw [so j (by omega) h1]; exact ag j h1 h2) (fx.tr f2) es
    unfold com_
    rw [pk_us, e2, nI_1]
theorem q_sorts (c : CW h v A) (ok : OK v A) {a : Int32} (k : KC h (sp_sorts v A a) Q) : ev_ X (d + 9) 77 [.ref 0, .int a] h Q := by
  have cw := c
  obtain ⟨⟨ci, o, z3, z8, z7⟩, c1, c2, c3, c4, c5, c6, ⟨ef, g36, e36⟩, c8⟩ := c
  have md := MD.ab ok.1.1
  have di : DI (A 0) := ⟨ok.1.2.2.2.2.2.2.1, ok.1.2.2.2.2.2.2.2.1⟩
  obtain ⟨mi, mr, mt, ms, r, q, mx⟩ := c1
  replace q : MR (A 0) mi mr (nsA A) (nbA A) := q
  replace mx : MX h (A 0) (G_ (A 0)) mt ms (nsA A) := mx
  have mk : MK h 1 (A 0) (G_ (A 0)) (nsA A) (nbA A) := ⟨mi, mr, mt, ms, r, q, mx⟩
  obtain ⟨hns, hnb, e1, e2, e3⟩ := id md
  have q7 : mi 7 = A 0 1 := by rw [e1]; exact q.1.2.2.2.2.1
  have q12 : mi 12 = A 0 2 := by rw [e2]; exact q.1.2.2.2.2.2
  unfold sp_sorts at k
  by_cases c1 : (0 ≤ a ∧ a ≤ 3)
  case neg =>
    rw [if_neg c1] at k
    simp only [i77_0, i77_1, i77_4, i77_7, i77_8, i77_9, i77_12, i77_13, i77_14, i77_17, i77_18, i77_19, i77_20, i77_21, i77_24, i77_27, i77_28, i77_29, i77_32, i77_33, i77_34, i77_37, i77_38, i77_39, i77_41, i77_42, i77_46, i77_47, i77_48, i77_49, i77_52, i77_55, i77_56, i77_59, i77_62, i77_64, i77_67, i77_68, i77_70, i77_71, i77_72, i77_74, i77_75, i77_76, i77_77, i77_78, i77_80, i77_81, i77_82, i77_83, i77_86, i77_89, i77_92, i77_93, i77_96, i77_97, i77_99, i77_100, i77_101, i77_103, i77_104, i77_105, i77_106, i77_107, i77_109, i77_110, i77_111, i77_112, i77_115, i77_116, i77_119, i77_122, i77_125, i77_127, i77_e, cof_gk o, cof_gv o, ob_co o, k_in, k_isSheet, k_isUse, k_isAhead, bi_eq0, decide_true, decide_false, and_self, if_true, if_false, reduceCtorEq, not_true_eq_false, not_false_eq_true, mx_t0, Option.toList_some, Option.toList_none, List.nil_append, List.cons_append, true_and, and_true, eq_self, true_or, or_true, bi_01, mx_nl_i, mx_nl_r, mx_nl_n, mx_nl_f, mx_nl_d, k_e1 o g36, k_e2 o g36, k_e3 o g36, k_e4 o g36, k_e5 o g36, c1]
    exact k.er cw (by decide) (by decide) g36
  rw [if_pos c1] at k
  obtain ⟨s, hs, rfl⟩ := nI_rng (k := 3) (by decide) c1
  rw [nI_clamp (show s < 2 ^ 31 by omega)] at k
  obtain ⟨⟨sf, g35, e35⟩, c6x⟩ := c6
  obtain ⟨w, g, rr, eg⟩ := c6x s (by omega)
  obtain ⟨⟨z, hz, ez⟩, _⟩ := ok.2.2.2.2.2 s (by omega)
  have i4 : mx_in (nI s) 4 = true := mx_inN (by omega) (by decide)
  by_cases b0 : A 10 s = 0
  · rw [if_pos b0] at k
    simp only [i77_0, i77_1, i77_4, i77_7, i77_8, i77_9, i77_12, i77_13, i77_14, i77_17, i77_18, i77_19, i77_20, i77_21, i77_24, i77_27, i77_28, i77_29, i77_32, i77_33, i77_34, i77_37, i77_38, i77_39, i77_41, i77_42, i77_46, i77_47, i77_48, i77_49, i77_52, i77_55, i77_56, i77_59, i77_62, i77_64, i77_67, i77_68, i77_70, i77_71, i77_72, i77_74, i77_75, i77_76, i77_77, i77_78, i77_80, i77_81, i77_82, i77_83, i77_86, i77_89, i77_92, i77_93, i77_96, i77_97, i77_99, i77_100, i77_101, i77_103, i77_104, i77_105, i77_106, i77_107, i77_109, i77_110, i77_111, i77_112, i77_115, i77_116, i77_119, i77_122, i77_125, i77_127, i77_e, cof_gk o, cof_gv o, ob_co o, k_in, k_isSheet, k_isUse, k_isAhead, bi_eq0, decide_true, decide_false, and_self, if_true, if_false, reduceCtorEq, not_true_eq_false, not_false_eq_true, mx_t0, Option.toList_some, Option.toList_none, List.nil_append, List.cons_append, true_and, and_true, eq_self, true_or, or_true, bi_01, mx_nl_i, mx_nl_r, mx_nl_n, mx_nl_f, mx_nl_d, k_e1 o g36, k_e2 o g36, k_e3 o g36, k_e4 o g36, k_e5 o g36, c1, rr_rk g35, rr_ra g35, i4, nI_clamp (show s < 2 ^ 31 by omega), e35 s (by omega), mxv_s, show (mx_cmp 4).isSome = true from rfl, Bool.and_self, ob_co w, k_missing w, b0]
    exact k.er cw (by decide) (by decide) g36
  rw [if_neg b0, ez] at k
  rw [ez] at w
  simp only [i77_0, i77_1, i77_4, i77_7, i77_8, i77_9, i77_12, i77_13, i77_14, i77_17, i77_18, i77_19, i77_20, i77_21, i77_24, i77_27, i77_28, i77_29, i77_32, i77_33, i77_34, i77_37, i77_38, i77_39, i77_41, i77_42, i77_46, i77_47, i77_48, i77_49, i77_52, i77_55, i77_56, i77_59, i77_62, i77_64, i77_67, i77_68, i77_70, i77_71, i77_72, i77_74, i77_75, i77_76, i77_77, i77_78, i77_80, i77_81, i77_82, i77_83, i77_86, i77_89, i77_92, i77_93, i77_96, i77_97, i77_99, i77_100, i77_101, i77_103, i77_104, i77_105, i77_106, i77_107, i77_109, i77_110, i77_111, i77_112, i77_115, i77_116, i77_119, i77_122, i77_125, i77_127, i77_e, cof_gk o, cof_gv o, ob_co o, k_in, k_isSheet, k_isUse, k_isAhead, bi_eq0, decide_true, decide_false, and_self, if_true, if_false, reduceCtorEq, not_true_eq_false, not_false_eq_true, mx_t0, Option.toList_some, Option.toList_none, List.nil_append, List.cons_append, true_and, and_true, eq_self, true_or, or_true, bi_01, mx_nl_i, mx_nl_r, mx_nl_n, mx_nl_f, mx_nl_d, c1, rr_rk g35, rr_ra g35, i4, nI_clamp (show s < 2 ^ 31 by omega), e35 s (by omega), mxv_s, show (mx_cmp 4).isSome = true from rfl, Bool.and_self, ob_co w, k_missing w, b0, hof_gk w, hof_gv w]
  exact k_sorts_l (by omega) hz ok o w rr eg cw k 14 h (A 0) 0 (nbA A) (by omega) hnb e2 mk (fun _ _ _ => rfl) (FX.rf h) rfl
end KR1
