/-! the reference: what a use gives, who may ask, what is asked -/
theorem mx_setid {h : MXH} {a : Nat} {x : va_E} (ha : h[a]? = some x) : h.set a x = h := by
  apply List.ext_getElem?
  intro i
  rw [List.getElem?_set]
  by_cases e : a = i
  · subst e
    rw [if_pos rfl, ha, if_pos (List.getElem?_eq_some_iff.mp ha).1]
  · rw [if_neg e]
def dp_ (c : Nat → Int32) : Nat → Nat
  | 0 => 0
  | j + 1 => if c j < 20000 then dp_ c j + 1 else if c j = 20033 then dp_ c j else dp_ c j - 1
theorem wr_dp (nm c p : Nat → Int32) : ∀ j, (wr_ nm c p j).2 = dp_ c j
  | 0 => rfl
  | j + 1 => by
    show (ws_ nm (c j) (wr_ nm c p j)).2 = _
    have ih := wr_dp nm c p j
    unfold ws_ dp_
    split
    · simp [ih]
    · split
      · simp [ih]
      · simp [ih]
/-- a program that stays within the pile and leaves one -/
def pg_ (c : Nat → Int32) (N : Nat) : Prop := (∀ j, j < N → wk_ (c j) (dp_ c j)) ∧ dp_ c N = 1
theorem wr_ind (nm c p p' : Nat → Int32) : ∀ j, (∀ i, i < j → wk_ (c i) (dp_ c i)) → ∀ i, i < dp_ c j → (wr_ nm c p j).1 i = (wr_ nm c p' j).1 i
  | 0, _, i, hi => by cases hi
  | j + 1, hk, i, hi => by
    have ih := wr_ind nm c p p' j (fun i hi => hk i (Nat.lt_succ_of_lt hi))
    have k := hk j (Nat.lt_succ_self j)
    show (ws_ nm (c j) (wr_ nm c p j)).1 i = (ws_ nm (c j) (wr_ nm c p' j)).1 i
    have d1 := wr_dp nm c p j
    have d2 := wr_dp nm c p' j
    unfold wk_ at k
    unfold dp_ at hi
    unfold ws_
    rcases k with ⟨k1, k2, k3⟩ | ⟨k1, k2, k3⟩ | ⟨k1, k2, k3, k4⟩
    · rw [if_pos k1, if_pos k1]
      rw [if_pos k1] at hi
      simp only [d1, d2, upd]
      split
      · rfl
      · exact ih i (by omega)
    · rw [k1] at hi ⊢
      simp only [show ¬ ((20033 : Int32) < 20000) from by decide, if_false, if_true] at hi
      simp only [show ¬ ((20033 : Int32) < 20000) from by decide, if_false, if_true, d1, d2, upd, ih (dp_ c j - 1) (by omega)]
      split
      · rfl
      · exact ih i hi
    · rw [if_neg k1, if_neg k2] at hi
      rw [if_neg k1, if_neg k2, if_neg k1, if_neg k2]
      simp only [d1, d2, upd, ih (dp_ c j - 1) (by omega), ih (dp_ c j - 2) (by omega)]
      split
      · rfl
      · exact ih i (by omega)
def nm4 (a b c f : Int32) : Nat → Int32 := upd (upd (upd (upd (fun _ => 0) 0 a) 1 b) 2 c) 3 f
/-- what a use gives, by the row d -/
def G_ (m : Nat → Int32) (u : Nat) (a b c f : Int32) : Int32 :=
  if m (104 + u) = 0 then (if a ≤ (if u = 0 then b + f else b) then 1 else 0)
  else (wr_ (nm4 a b c f) (fun j => m (126 + 50 * u + j)) (fun _ => 0) (m (104 + u)).toNatClampNeg).1 0
def TO (m : Nat → Int32) (u : Nat) : Prop := ∃ N : Nat, N ≤ 50 ∧ m (104 + u) = nI N ∧ (N = 0 ∨ pg_ (fun j => m (126 + 50 * u + j)) N)
theorem wr_nm {nm nm' c p : Nat → Int32} (hn : ∀ j, j < 4 → nm j = nm' j) : ∀ j, (∀ i, i < j → wk_ (c i) (dp_ c i)) → wr_ nm c p j = wr_ nm' c p j
  | 0, _ => rfl
  | j + 1, hk => by
    have ih := wr_nm (p := p) hn j (fun i hi => hk i (Nat.lt_succ_of_lt hi))
    have k := hk j (Nat.lt_succ_self j)
    show ws_ nm (c j) (wr_ nm c p j) = ws_ nm' (c j) (wr_ nm' c p j)
    rw [ih]
    unfold ws_
    unfold wk_ at k
    rcases k with ⟨k1, k2, k3⟩ | ⟨k1, k2, k3⟩ | ⟨k1, k2, k3, k4⟩
    · rw [if_pos k1, if_pos k1]
      by_cases k5 : c j < 10000
      · rw [if_pos k5, if_pos k5]
      · rw [if_neg k5, if_neg k5]
        have k6 := k3.resolve_left k5
        unfold mx_in at k6
        simp only [Bool.and_eq_true, decide_eq_true_eq] at k6
        rw [hn _ k6.2]
    · rw [k1]; simp only [show ¬ ((20033 : Int32) < 20000) from by decide, if_false, if_true]
    · simp only [k1, k2, if_false]
/-- rows that are only used in passing -/
def SC (A A' : Nat → Nat → Int32) : Prop := ∀ j, j ≠ 4 → j ≠ 6 → A' j = A j
section R4
variable {X : MXX} {d : Nat} {h : MXH} {Q : MXP} {v : Nat → Int32} {A : Nat → Nat → Int32}
set_option maxHeartbeats 1000000 in
theorem c_givesOf (r : RW h v A) {u : Nat} (hu : u < 2) (ht : TO (A 0) u) {a b c f : Int32} (k : ∀ h' A', RW h' v A' → FR h h' → SC A A' → Q (some (.int (G_ (A 0) u a b c f))) h') : ev_ X (d + 2) 148 [.ref 96, .int (nI u), .int a, .int b, .int c, .int f] h Q := by
  obtain ⟨N, hN, hm, hp⟩ := ht
  have e1 : (104 + nI u : Int32) = nI (104 + u) := nI_add 104 u
  have g0 := r.g0
  have hG : G_ (A 0) u a b c f = G_ (A 0) u a b c f := rfl
  by_cases hz : N = 0
  · subst hz
    have k2 := k h A r (FR.rf h) (fun _ _ _ => rfl)
    unfold G_ at k2
    rw [hm, if_pos (show (nI 0 : Int32) = 0 from rfl)] at k2
    by_cases h0 : u = 0
    · subst h0
      simp only [if_true] at k2
      simp only [i148_0, i148_1, i148_4, i148_6, i148_7, i148_8, i148_9, i148_12, i148_13, i148_16, i148_17, i148_19, i148_20, i148_23, i148_24, i148_26, i148_27, i148_29, i148_32, i148_33, i148_36, i148_37, i148_38, i148_39, i148_42, i148_43, i148_44, i148_45, i148_46, i148_49, i148_50, i148_51, i148_52, i148_53, i148_56, i148_57, i148_59, i148_60, i148_61, i148_64, i148_65, i148_67, i148_68, i148_69, i148_71, i148_73, i148_74, i148_75, i148_76, i148_77, i148_80, i148_82, i148_83, i148_84, i148_85, i148_88, i148_e, e1, mo_gk r.o, mo_gv r.o, ar_ik g0, ar_ia g0, mx_inN (show 104 + 0 < 280 by omega) (by decide), nI_clamp (show 104 + 0 < 2 ^ 31 by omega), hm, show ¬ ¬ (nI 0 = 0) from by decide, show ¬ ¬ ((nI 0 : Int32) = 0) from by decide, if_false, true_and, and_true, eq_self, true_or, or_true, bi_01, mx_nl_i, mx_nl_r, mx_nl_n, mx_nl_f, mx_nl_d, mx_iteQ]
      exact k2
    · have e : u = 1 := by omega
      subst e
      simp only [show ¬ (1 = 0) from by decide, if_false] at k2
      simp only [i148_0, i148_1, i148_4, i148_6, i148_7, i148_8, i148_9, i148_12, i148_13, i148_16, i148_17, i148_19, i148_20, i148_23, i148_24, i148_26, i148_27, i148_29, i148_32, i148_33, i148_36, i148_37, i148_38, i148_39, i148_42, i148_43, i148_44, i148_45, i148_46, i148_49, i148_50, i148_51, i148_52, i148_53, i148_56, i148_57, i148_59, i148_60, i148_61, i148_64, i148_65, i148_67, i148_68, i148_69, i148_71, i148_73, i148_74, i148_75, i148_76, i148_77, i148_80, i148_82, i148_83, i148_84, i148_85, i148_88, i148_e, e1, mo_gk r.o, mo_gv r.o, ar_ik g0, ar_ia g0, mx_inN (show 104 + 1 < 280 by omega) (by decide), nI_clamp (show 104 + 1 < 2 ^ 31 by omega), hm, show ¬ ¬ (nI 0 = 0) from by decide, show ¬ ((nI 1 : Int32) = 0) from by decide, not_false_eq_true, if_false, if_true, true_and, and_true, eq_self, true_or, or_true, bi_01, mx_nl_i, mx_nl_r, mx_nl_n, mx_nl_f, mx_nl_d, mx_iteQ]
      exact k2
  · have hp := hp.resolve_left hz
    have hm0 : ¬ (nI N : Int32) = 0 := nI_ne0 (by omega) (by omega)
    have g4 := r.g4
    have e2 : (126 + 50 * nI u : Int32) = nI (126 + 50 * u) := by
      show nI 126 + nI 50 * nI u = _
      rw [pk_mul, nI_add]
    have r1 := r.s4 (f := upd (upd (upd (upd (A 4) 0 a) 1 b) 2 c) 3 f)
    have hA0 : up2 A 4 (upd (upd (upd (upd (A 4) 0 a) 1 b) 2 c) 3 f) 0 = A 0 := up2_n (by decide)
    have hA4 : up2 A 4 (upd (upd (upd (upd (A 4) 0 a) 1 b) 2 c) 3 f) 4 = _ := up2_s 4
    have hw := c_worked (X := X) (d := d) (Q := Q) r1 (fr := 126 + 50 * u) (N := N) (by omega) (by
      intro j hj
      rw [wr_dp, hA0]
      exact hp.1 j hj)
    have hs : ∀ f, (h.set 101 (.inl (0, 4, .inl f)))[101]? = some (.inl (0, 4, .inl f)) := fun f => mx_gss (by rw [g4]; rfl)
    have ho : ∀ f, (h.set 101 (.inl (0, 4, .inl f)))[96]? = some (.inr (12, mof v)) := fun f => by rw [List.getElem?_set_ne (by decide)]; exact r.o
    have h0 : ∀ f, (h.set 101 (.inl (0, 4, .inl f)))[97]? = some (.inl (0, 280, .inl (A 0))) := fun f => by rw [List.getElem?_set_ne (by decide)]; exact g0
    have m4 : mx_in 0 4 = true ∧ mx_in 1 4 = true ∧ mx_in 2 4 = true ∧ mx_in 3 4 = true := by decide
    have t4 : (0 : Int32).toNatClampNeg = 0 ∧ (1 : Int32).toNatClampNeg = 1 ∧ (2 : Int32).toNatClampNeg = 2 ∧ (3 : Int32).toNatClampNeg = 3 := by decide
    simp only [i148_0, i148_1, i148_4, i148_6, i148_7, i148_8, i148_9, i148_12, i148_13, i148_16, i148_17, i148_19, i148_20, i148_23, i148_24, i148_26, i148_27, i148_29, i148_32, i148_33, i148_36, i148_37, i148_38, i148_39, i148_42, i148_43, i148_44, i148_45, i148_46, i148_49, i148_50, i148_51, i148_52, i148_53, i148_56, i148_57, i148_59, i148_60, i148_61, i148_64, i148_65, i148_67, i148_68, i148_69, i148_71, i148_73, i148_74, i148_75, i148_76, i148_77, i148_80, i148_82, i148_83, i148_84, i148_85, i148_88, i148_e, e1, e2, mo_gk r.o, mo_gv r.o, mo_gk (ho _), mo_gv (ho _), ar_ik g0, ar_ia g0, ar_ik (h0 _), ar_ia (h0 _), ar_ik g4, ar_is g4, ar_ik (hs _), ar_is (hs _), List.set_set, mx_inN (show 104 + u < 280 by omega) (by decide), nI_clamp (show 104 + u < 2 ^ 31 by omega), hm, hm0, not_false_eq_true, if_true, m4, t4, ob_co (ho _), true_and, and_true, eq_self, true_or, or_true, bi_01, mx_nl_i, mx_nl_r, mx_nl_n, mx_nl_f, mx_nl_d]
    have hw2 := fun Q' => c_worked (X := X) (d := d) (Q := Q') r1 (fr := 126 + 50 * u) (N := N) (by omega) (by
      intro j hj
      rw [wr_dp, hA0]
      exact hp.1 j hj)
    rw [hw2]
    simp only [i148_0, i148_1, i148_4, i148_6, i148_7, i148_8, i148_9, i148_12, i148_13, i148_16, i148_17, i148_19, i148_20, i148_23, i148_24, i148_26, i148_27, i148_29, i148_32, i148_33, i148_36, i148_37, i148_38, i148_39, i148_42, i148_43, i148_44, i148_45, i148_46, i148_49, i148_50, i148_51, i148_52, i148_53, i148_56, i148_57, i148_59, i148_60, i148_61, i148_64, i148_65, i148_67, i148_68, i148_69, i148_71, i148_73, i148_74, i148_75, i148_76, i148_77, i148_80, i148_82, i148_83, i148_84, i148_85, i148_88, i148_e, Option.toList_some, Option.toList_none, List.nil_append, List.cons_append]
    have hres : (wr_ (up2 A 4 (upd (upd (upd (upd (A 4) 0 a) 1 b) 2 c) 3 f) 4) (fun j => up2 A 4 (upd (upd (upd (upd (A 4) 0 a) 1 b) 2 c) 3 f) 0 (126 + 50 * u + j)) (up2 A 4 (upd (upd (upd (upd (A 4) 0 a) 1 b) 2 c) 3 f) 6) N).1 0 = G_ (A 0) u a b c f := by
      unfold G_
      rw [hm, if_neg hm0, nI_clamp (by omega), hA0, hA4, wr_nm (nm' := nm4 a b c f) (fun j hj => by
        unfold nm4 upd
        match j, hj with
        | 0, _ => rfl
        | 1, _ => rfl
        | 2, _ => rfl
        | 3, _ => rfl
        | n + 4, h => omega) N hp.1]
      exact wr_ind _ _ _ _ N hp.1 0 (by rw [hp.2]; decide)
    rw [hres]
    refine k _ _ (r1.s6) (FR.tr (FR.set (by decide) (by decide)) (FR.set (by decide) (by decide))) (fun j h1 h2 => ?_)
    rw [up2_n h2, up2_n h1]
end R4
